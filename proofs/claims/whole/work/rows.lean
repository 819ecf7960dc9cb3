section
-- ===== PART A: goes FIRST, ahead of the names: the tables' words, and 'selects' of the private methods out of them =====
/-- a private method of a class that the tables say can be made, by its rows of tables_1 -/
def lw_okq (q : MethodName × Nat) : Prop := (q.1.cls ≠ "java/lang/invoke/MethodHandle" ∧ q.1.cls ≠ "java/lang/invoke/VarHandle") ∧ Cond.instantiable q.1.cls q.2 ∈ tables_1 ∧ Cond.privateMethod q.1 ∈ tables_1 ∧ Cond.instanceMethod q.1 ∈ tables_1
theorem lw_p0 : lw_okq (⟨"SundayVisits", "tell", "(I)I"⟩, 7) := ⟨⟨by decide +kernel, by decide +kernel⟩, List.mem_of_getElem? (i := 16) (by decide +kernel), List.mem_of_getElem? (i := 193) (by decide +kernel), List.mem_of_getElem? (i := 194) (by decide +kernel)⟩
theorem lw_p1 : lw_okq (⟨"SundayVisits", "beginTrial", "()V"⟩, 7) := ⟨⟨by decide +kernel, by decide +kernel⟩, List.mem_of_getElem? (i := 16) (by decide +kernel), List.mem_of_getElem? (i := 369) (by decide +kernel), List.mem_of_getElem? (i := 370) (by decide +kernel)⟩
theorem lw_p2 : lw_okq (⟨"SundayVisits", "firstSunday", "(III)I"⟩, 7) := ⟨⟨by decide +kernel, by decide +kernel⟩, List.mem_of_getElem? (i := 16) (by decide +kernel), List.mem_of_getElem? (i := 388) (by decide +kernel), List.mem_of_getElem? (i := 389) (by decide +kernel)⟩
theorem lw_p3 : lw_okq (⟨"SundayVisits", "tryWith", "(III)V"⟩, 7) := ⟨⟨by decide +kernel, by decide +kernel⟩, List.mem_of_getElem? (i := 16) (by decide +kernel), List.mem_of_getElem? (i := 415) (by decide +kernel), List.mem_of_getElem? (i := 416) (by decide +kernel)⟩
theorem lw_p4 : lw_okq (⟨"SundayVisits", "bestChoice", "(IIII)I"⟩, 7) := ⟨⟨by decide +kernel, by decide +kernel⟩, List.mem_of_getElem? (i := 16) (by decide +kernel), List.mem_of_getElem? (i := 435) (by decide +kernel), List.mem_of_getElem? (i := 436) (by decide +kernel)⟩
theorem lw_p5 : lw_okq (⟨"SundayVisits", "suppose", "(III)V"⟩, 7) := ⟨⟨by decide +kernel, by decide +kernel⟩, List.mem_of_getElem? (i := 16) (by decide +kernel), List.mem_of_getElem? (i := 439) (by decide +kernel), List.mem_of_getElem? (i := 440) (by decide +kernel)⟩
theorem lw_p6 : lw_okq (⟨"SundayVisits", "friendOfChoice", "(II)I"⟩, 7) := ⟨⟨by decide +kernel, by decide +kernel⟩, List.mem_of_getElem? (i := 16) (by decide +kernel), List.mem_of_getElem? (i := 443) (by decide +kernel), List.mem_of_getElem? (i := 444) (by decide +kernel)⟩
theorem lw_p7 : lw_okq (⟨"SundayVisits", "lackFor", "(II)I"⟩, 7) := ⟨⟨by decide +kernel, by decide +kernel⟩, List.mem_of_getElem? (i := 16) (by decide +kernel), List.mem_of_getElem? (i := 469) (by decide +kernel), List.mem_of_getElem? (i := 470) (by decide +kernel)⟩
theorem lw_p8 : lw_okq (⟨"SundayVisits", "lackOf", "(I)I"⟩, 7) := ⟨⟨by decide +kernel, by decide +kernel⟩, List.mem_of_getElem? (i := 16) (by decide +kernel), List.mem_of_getElem? (i := 473) (by decide +kernel), List.mem_of_getElem? (i := 474) (by decide +kernel)⟩
theorem lw_p9 : lw_okq (⟨"SundayVisits", "moodFits", "(LSundayVisits$Sheet;II)Z"⟩, 7) := ⟨⟨by decide +kernel, by decide +kernel⟩, List.mem_of_getElem? (i := 16) (by decide +kernel), List.mem_of_getElem? (i := 482) (by decide +kernel), List.mem_of_getElem? (i := 483) (by decide +kernel)⟩
theorem lw_p10 : lw_okq (⟨"SundayVisits", "goesAsTold", "(LSundayVisits$Sheet;LSundayVisits$Resident;Z)Z"⟩, 7) := ⟨⟨by decide +kernel, by decide +kernel⟩, List.mem_of_getElem? (i := 16) (by decide +kernel), List.mem_of_getElem? (i := 486) (by decide +kernel), List.mem_of_getElem? (i := 487) (by decide +kernel)⟩
theorem lw_p11 : lw_okq (⟨"SundayVisits", "kindFits", "(LSundayVisits$Sheet;II)Z"⟩, 7) := ⟨⟨by decide +kernel, by decide +kernel⟩, List.mem_of_getElem? (i := 16) (by decide +kernel), List.mem_of_getElem? (i := 503) (by decide +kernel), List.mem_of_getElem? (i := 504) (by decide +kernel)⟩
theorem lw_p12 : lw_okq (⟨"SundayVisitsModel", "becomes", "(II)I"⟩, 17) := ⟨⟨by decide +kernel, by decide +kernel⟩, List.mem_of_getElem? (i := 733) (by decide +kernel), List.mem_of_getElem? (i := 804) (by decide +kernel), List.mem_of_getElem? (i := 805) (by decide +kernel)⟩
theorem lw_p13 : lw_okq (⟨"SundayVisitsModel", "finds", "(I)I"⟩, 17) := ⟨⟨by decide +kernel, by decide +kernel⟩, List.mem_of_getElem? (i := 733) (by decide +kernel), List.mem_of_getElem? (i := 808) (by decide +kernel), List.mem_of_getElem? (i := 809) (by decide +kernel)⟩
theorem lw_p14 : lw_okq (⟨"SundayVisitsModel", "comes", "(I)I"⟩, 17) := ⟨⟨by decide +kernel, by decide +kernel⟩, List.mem_of_getElem? (i := 733) (by decide +kernel), List.mem_of_getElem? (i := 836) (by decide +kernel), List.mem_of_getElem? (i := 837) (by decide +kernel)⟩
theorem lw_p15 : lw_okq (⟨"SundayVisitsModel", "sets", "(III)V"⟩, 17) := ⟨⟨by decide +kernel, by decide +kernel⟩, List.mem_of_getElem? (i := 733) (by decide +kernel), List.mem_of_getElem? (i := 840) (by decide +kernel), List.mem_of_getElem? (i := 841) (by decide +kernel)⟩
def lw_privs_1 : List (MethodName × Nat) := [(⟨"SundayVisits", "tell", "(I)I"⟩, 7), (⟨"SundayVisits", "beginTrial", "()V"⟩, 7), (⟨"SundayVisits", "firstSunday", "(III)I"⟩, 7), (⟨"SundayVisits", "tryWith", "(III)V"⟩, 7), (⟨"SundayVisits", "bestChoice", "(IIII)I"⟩, 7), (⟨"SundayVisits", "suppose", "(III)V"⟩, 7), (⟨"SundayVisits", "friendOfChoice", "(II)I"⟩, 7), (⟨"SundayVisits", "lackFor", "(II)I"⟩, 7), (⟨"SundayVisits", "lackOf", "(I)I"⟩, 7), (⟨"SundayVisits", "moodFits", "(LSundayVisits$Sheet;II)Z"⟩, 7), (⟨"SundayVisits", "goesAsTold", "(LSundayVisits$Sheet;LSundayVisits$Resident;Z)Z"⟩, 7), (⟨"SundayVisits", "kindFits", "(LSundayVisits$Sheet;II)Z"⟩, 7), (⟨"SundayVisitsModel", "becomes", "(II)I"⟩, 17), (⟨"SundayVisitsModel", "finds", "(I)I"⟩, 17), (⟨"SundayVisitsModel", "comes", "(I)I"⟩, 17), (⟨"SundayVisitsModel", "sets", "(III)V"⟩, 17)]
theorem lw_r1 : ∀ q ∈ lw_privs_1, lw_okq q := List.forall_mem_cons.mpr ⟨lw_p0, List.forall_mem_cons.mpr ⟨lw_p1, List.forall_mem_cons.mpr ⟨lw_p2, List.forall_mem_cons.mpr ⟨lw_p3, List.forall_mem_cons.mpr ⟨lw_p4, List.forall_mem_cons.mpr ⟨lw_p5, List.forall_mem_cons.mpr ⟨lw_p6, List.forall_mem_cons.mpr ⟨lw_p7, List.forall_mem_cons.mpr ⟨lw_p8, List.forall_mem_cons.mpr ⟨lw_p9, List.forall_mem_cons.mpr ⟨lw_p10, List.forall_mem_cons.mpr ⟨lw_p11, List.forall_mem_cons.mpr ⟨lw_p12, List.forall_mem_cons.mpr ⟨lw_p13, List.forall_mem_cons.mpr ⟨lw_p14, List.forall_mem_cons.mpr ⟨lw_p15, fun _ h => absurd h List.not_mem_nil⟩⟩⟩⟩⟩⟩⟩⟩⟩⟩⟩⟩⟩⟩⟩⟩
theorem lw_p16 : lw_okq (⟨"SundayVisitsModel", "isResident", "(I)Z"⟩, 17) := ⟨⟨by decide +kernel, by decide +kernel⟩, List.mem_of_getElem? (i := 733) (by decide +kernel), List.mem_of_getElem? (i := 848) (by decide +kernel), List.mem_of_getElem? (i := 849) (by decide +kernel)⟩
theorem lw_p17 : lw_okq (⟨"SundayVisitsModel", "seats", "(I)I"⟩, 17) := ⟨⟨by decide +kernel, by decide +kernel⟩, List.mem_of_getElem? (i := 733) (by decide +kernel), List.mem_of_getElem? (i := 852) (by decide +kernel), List.mem_of_getElem? (i := 853) (by decide +kernel)⟩
theorem lw_p18 : lw_okq (⟨"SundayVisitsModel", "its", "(II)I"⟩, 17) := ⟨⟨by decide +kernel, by decide +kernel⟩, List.mem_of_getElem? (i := 733) (by decide +kernel), List.mem_of_getElem? (i := 856) (by decide +kernel), List.mem_of_getElem? (i := 857) (by decide +kernel)⟩
theorem lw_p19 : lw_okq (⟨"SundayVisitsModel", "gains", "(I)I"⟩, 17) := ⟨⟨by decide +kernel, by decide +kernel⟩, List.mem_of_getElem? (i := 733) (by decide +kernel), List.mem_of_getElem? (i := 860) (by decide +kernel), List.mem_of_getElem? (i := 861) (by decide +kernel)⟩
theorem lw_p20 : lw_okq (⟨"SundayVisitsModel", "loses", "(II)I"⟩, 17) := ⟨⟨by decide +kernel, by decide +kernel⟩, List.mem_of_getElem? (i := 733) (by decide +kernel), List.mem_of_getElem? (i := 867) (by decide +kernel), List.mem_of_getElem? (i := 868) (by decide +kernel)⟩
theorem lw_p21 : lw_okq (⟨"SundayVisitsModel", "shares", "(I)Z"⟩, 17) := ⟨⟨by decide +kernel, by decide +kernel⟩, List.mem_of_getElem? (i := 733) (by decide +kernel), List.mem_of_getElem? (i := 871) (by decide +kernel), List.mem_of_getElem? (i := 872) (by decide +kernel)⟩
theorem lw_p22 : lw_okq (⟨"SundayVisitsModel", "isIts", "(III)Z"⟩, 17) := ⟨⟨by decide +kernel, by decide +kernel⟩, List.mem_of_getElem? (i := 733) (by decide +kernel), List.mem_of_getElem? (i := 880) (by decide +kernel), List.mem_of_getElem? (i := 881) (by decide +kernel)⟩
theorem lw_p23 : lw_okq (⟨"SundayVisitsModel", "sundaysGo", "(I)V"⟩, 17) := ⟨⟨by decide +kernel, by decide +kernel⟩, List.mem_of_getElem? (i := 733) (by decide +kernel), List.mem_of_getElem? (i := 893) (by decide +kernel), List.mem_of_getElem? (i := 894) (by decide +kernel)⟩
theorem lw_p24 : lw_okq (⟨"SundayVisitsModel", "sundayGoes", "()V"⟩, 17) := ⟨⟨by decide +kernel, by decide +kernel⟩, List.mem_of_getElem? (i := 733) (by decide +kernel), List.mem_of_getElem? (i := 897) (by decide +kernel), List.mem_of_getElem? (i := 898) (by decide +kernel)⟩
theorem lw_p25 : lw_okq (⟨"SundayVisitsModel", "todays", "()I"⟩, 17) := ⟨⟨by decide +kernel, by decide +kernel⟩, List.mem_of_getElem? (i := 733) (by decide +kernel), List.mem_of_getElem? (i := 901) (by decide +kernel), List.mem_of_getElem? (i := 902) (by decide +kernel)⟩
theorem lw_p26 : lw_okq (⟨"SundayVisitsModel", "visitedOf", "(I)I"⟩, 17) := ⟨⟨by decide +kernel, by decide +kernel⟩, List.mem_of_getElem? (i := 733) (by decide +kernel), List.mem_of_getElem? (i := 905) (by decide +kernel), List.mem_of_getElem? (i := 906) (by decide +kernel)⟩
theorem lw_p27 : lw_okq (⟨"SundayVisitsModel", "sharersOf", "(I)I"⟩, 17) := ⟨⟨by decide +kernel, by decide +kernel⟩, List.mem_of_getElem? (i := 733) (by decide +kernel), List.mem_of_getElem? (i := 909) (by decide +kernel), List.mem_of_getElem? (i := 910) (by decide +kernel)⟩
theorem lw_p28 : lw_okq (⟨"SundayVisitsModel", "helpedOf", "(I)I"⟩, 17) := ⟨⟨by decide +kernel, by decide +kernel⟩, List.mem_of_getElem? (i := 733) (by decide +kernel), List.mem_of_getElem? (i := 913) (by decide +kernel), List.mem_of_getElem? (i := 914) (by decide +kernel)⟩
theorem lw_p29 : lw_okq (⟨"SundayVisitsModel", "longest", "(I)I"⟩, 17) := ⟨⟨by decide +kernel, by decide +kernel⟩, List.mem_of_getElem? (i := 733) (by decide +kernel), List.mem_of_getElem? (i := 917) (by decide +kernel), List.mem_of_getElem? (i := 918) (by decide +kernel)⟩
theorem lw_p30 : lw_okq (⟨"SundayVisitsModel", "sumOf", "(I)I"⟩, 17) := ⟨⟨by decide +kernel, by decide +kernel⟩, List.mem_of_getElem? (i := 733) (by decide +kernel), List.mem_of_getElem? (i := 924) (by decide +kernel), List.mem_of_getElem? (i := 925) (by decide +kernel)⟩
theorem lw_p31 : lw_okq (⟨"SundayVisitsModel", "wells", "()I"⟩, 17) := ⟨⟨by decide +kernel, by decide +kernel⟩, List.mem_of_getElem? (i := 733) (by decide +kernel), List.mem_of_getElem? (i := 932) (by decide +kernel), List.mem_of_getElem? (i := 933) (by decide +kernel)⟩
def lw_privs_2 : List (MethodName × Nat) := [(⟨"SundayVisitsModel", "isResident", "(I)Z"⟩, 17), (⟨"SundayVisitsModel", "seats", "(I)I"⟩, 17), (⟨"SundayVisitsModel", "its", "(II)I"⟩, 17), (⟨"SundayVisitsModel", "gains", "(I)I"⟩, 17), (⟨"SundayVisitsModel", "loses", "(II)I"⟩, 17), (⟨"SundayVisitsModel", "shares", "(I)Z"⟩, 17), (⟨"SundayVisitsModel", "isIts", "(III)Z"⟩, 17), (⟨"SundayVisitsModel", "sundaysGo", "(I)V"⟩, 17), (⟨"SundayVisitsModel", "sundayGoes", "()V"⟩, 17), (⟨"SundayVisitsModel", "todays", "()I"⟩, 17), (⟨"SundayVisitsModel", "visitedOf", "(I)I"⟩, 17), (⟨"SundayVisitsModel", "sharersOf", "(I)I"⟩, 17), (⟨"SundayVisitsModel", "helpedOf", "(I)I"⟩, 17), (⟨"SundayVisitsModel", "longest", "(I)I"⟩, 17), (⟨"SundayVisitsModel", "sumOf", "(I)I"⟩, 17), (⟨"SundayVisitsModel", "wells", "()I"⟩, 17)]
theorem lw_r2 : ∀ q ∈ lw_privs_2, lw_okq q := List.forall_mem_cons.mpr ⟨lw_p16, List.forall_mem_cons.mpr ⟨lw_p17, List.forall_mem_cons.mpr ⟨lw_p18, List.forall_mem_cons.mpr ⟨lw_p19, List.forall_mem_cons.mpr ⟨lw_p20, List.forall_mem_cons.mpr ⟨lw_p21, List.forall_mem_cons.mpr ⟨lw_p22, List.forall_mem_cons.mpr ⟨lw_p23, List.forall_mem_cons.mpr ⟨lw_p24, List.forall_mem_cons.mpr ⟨lw_p25, List.forall_mem_cons.mpr ⟨lw_p26, List.forall_mem_cons.mpr ⟨lw_p27, List.forall_mem_cons.mpr ⟨lw_p28, List.forall_mem_cons.mpr ⟨lw_p29, List.forall_mem_cons.mpr ⟨lw_p30, List.forall_mem_cons.mpr ⟨lw_p31, fun _ h => absurd h List.not_mem_nil⟩⟩⟩⟩⟩⟩⟩⟩⟩⟩⟩⟩⟩⟩⟩⟩
theorem lw_p32 : lw_okq (⟨"SundayVisitsModel", "behind", "(II)I"⟩, 17) := ⟨⟨by decide +kernel, by decide +kernel⟩, List.mem_of_getElem? (i := 733) (by decide +kernel), List.mem_of_getElem? (i := 944) (by decide +kernel), List.mem_of_getElem? (i := 945) (by decide +kernel)⟩
theorem lw_p33 : lw_okq (⟨"SundayVisitsModel", "firstOf", "(III)I"⟩, 17) := ⟨⟨by decide +kernel, by decide +kernel⟩, List.mem_of_getElem? (i := 733) (by decide +kernel), List.mem_of_getElem? (i := 952) (by decide +kernel), List.mem_of_getElem? (i := 953) (by decide +kernel)⟩
theorem lw_p34 : lw_okq (⟨"SundayVisitsModel", "areAll", "()Z"⟩, 17) := ⟨⟨by decide +kernel, by decide +kernel⟩, List.mem_of_getElem? (i := 733) (by decide +kernel), List.mem_of_getElem? (i := 968) (by decide +kernel), List.mem_of_getElem? (i := 969) (by decide +kernel)⟩
theorem lw_p35 : lw_okq (⟨"SundayVisitsModel", "whyNot", "(II)I"⟩, 17) := ⟨⟨by decide +kernel, by decide +kernel⟩, List.mem_of_getElem? (i := 733) (by decide +kernel), List.mem_of_getElem? (i := 1008) (by decide +kernel), List.mem_of_getElem? (i := 1009) (by decide +kernel)⟩
theorem lw_p36 : lw_okq (⟨"SundayVisitsModel", "whyNone", "(I)I"⟩, 17) := ⟨⟨by decide +kernel, by decide +kernel⟩, List.mem_of_getElem? (i := 733) (by decide +kernel), List.mem_of_getElem? (i := 1012) (by decide +kernel), List.mem_of_getElem? (i := 1013) (by decide +kernel)⟩
theorem lw_p37 : lw_okq (⟨"SundayVisitsModel", "isTold", "(IIZ)Z"⟩, 17) := ⟨⟨by decide +kernel, by decide +kernel⟩, List.mem_of_getElem? (i := 733) (by decide +kernel), List.mem_of_getElem? (i := 1019) (by decide +kernel), List.mem_of_getElem? (i := 1020) (by decide +kernel)⟩
theorem lw_p38 : lw_okq (⟨"SundayVisitsModel", "draw", "()I"⟩, 17) := ⟨⟨by decide +kernel, by decide +kernel⟩, List.mem_of_getElem? (i := 733) (by decide +kernel), List.mem_of_getElem? (i := 1035) (by decide +kernel), List.mem_of_getElem? (i := 1036) (by decide +kernel)⟩
theorem lw_p39 : lw_okq (⟨"SundayVisitsModel", "items", "()I"⟩, 17) := ⟨⟨by decide +kernel, by decide +kernel⟩, List.mem_of_getElem? (i := 733) (by decide +kernel), List.mem_of_getElem? (i := 1061) (by decide +kernel), List.mem_of_getElem? (i := 1062) (by decide +kernel)⟩
theorem lw_p40 : lw_okq (⟨"SundayVisitsModel", "next", "()V"⟩, 17) := ⟨⟨by decide +kernel, by decide +kernel⟩, List.mem_of_getElem? (i := 733) (by decide +kernel), List.mem_of_getElem? (i := 1065) (by decide +kernel), List.mem_of_getElem? (i := 1066) (by decide +kernel)⟩
theorem lw_p41 : lw_okq (⟨"SundayVisitsModel", "byteAt", "(I)I"⟩, 17) := ⟨⟨by decide +kernel, by decide +kernel⟩, List.mem_of_getElem? (i := 733) (by decide +kernel), List.mem_of_getElem? (i := 1069) (by decide +kernel), List.mem_of_getElem? (i := 1070) (by decide +kernel)⟩
theorem lw_p42 : lw_okq (⟨"SundayVisitsModel", "item", "()V"⟩, 17) := ⟨⟨by decide +kernel, by decide +kernel⟩, List.mem_of_getElem? (i := 733) (by decide +kernel), List.mem_of_getElem? (i := 1083) (by decide +kernel), List.mem_of_getElem? (i := 1084) (by decide +kernel)⟩
theorem lw_p43 : lw_okq (⟨"SundayVisitsModel", "kindHere", "()I"⟩, 17) := ⟨⟨by decide +kernel, by decide +kernel⟩, List.mem_of_getElem? (i := 733) (by decide +kernel), List.mem_of_getElem? (i := 1087) (by decide +kernel), List.mem_of_getElem? (i := 1088) (by decide +kernel)⟩
theorem lw_p44 : lw_okq (⟨"SundayVisitsModel", "isWord", "(J)Z"⟩, 17) := ⟨⟨by decide +kernel, by decide +kernel⟩, List.mem_of_getElem? (i := 733) (by decide +kernel), List.mem_of_getElem? (i := 1092) (by decide +kernel), List.mem_of_getElem? (i := 1093) (by decide +kernel)⟩
theorem lw_p45 : lw_okq (⟨"SundayVisitsModel", "setHere", "()I"⟩, 17) := ⟨⟨by decide +kernel, by decide +kernel⟩, List.mem_of_getElem? (i := 733) (by decide +kernel), List.mem_of_getElem? (i := 1102) (by decide +kernel), List.mem_of_getElem? (i := 1103) (by decide +kernel)⟩
theorem lw_p46 : lw_okq (⟨"SundayVisitsModel", "residentHere", "(I)V"⟩, 17) := ⟨⟨by decide +kernel, by decide +kernel⟩, List.mem_of_getElem? (i := 733) (by decide +kernel), List.mem_of_getElem? (i := 1110) (by decide +kernel), List.mem_of_getElem? (i := 1111) (by decide +kernel)⟩
theorem lw_p47 : lw_okq (⟨"SundayVisitsModel", "wrongHere", "()V"⟩, 17) := ⟨⟨by decide +kernel, by decide +kernel⟩, List.mem_of_getElem? (i := 733) (by decide +kernel), List.mem_of_getElem? (i := 1114) (by decide +kernel), List.mem_of_getElem? (i := 1115) (by decide +kernel)⟩
def lw_privs_3 : List (MethodName × Nat) := [(⟨"SundayVisitsModel", "behind", "(II)I"⟩, 17), (⟨"SundayVisitsModel", "firstOf", "(III)I"⟩, 17), (⟨"SundayVisitsModel", "areAll", "()Z"⟩, 17), (⟨"SundayVisitsModel", "whyNot", "(II)I"⟩, 17), (⟨"SundayVisitsModel", "whyNone", "(I)I"⟩, 17), (⟨"SundayVisitsModel", "isTold", "(IIZ)Z"⟩, 17), (⟨"SundayVisitsModel", "draw", "()I"⟩, 17), (⟨"SundayVisitsModel", "items", "()I"⟩, 17), (⟨"SundayVisitsModel", "next", "()V"⟩, 17), (⟨"SundayVisitsModel", "byteAt", "(I)I"⟩, 17), (⟨"SundayVisitsModel", "item", "()V"⟩, 17), (⟨"SundayVisitsModel", "kindHere", "()I"⟩, 17), (⟨"SundayVisitsModel", "isWord", "(J)Z"⟩, 17), (⟨"SundayVisitsModel", "setHere", "()I"⟩, 17), (⟨"SundayVisitsModel", "residentHere", "(I)V"⟩, 17), (⟨"SundayVisitsModel", "wrongHere", "()V"⟩, 17)]
theorem lw_r3 : ∀ q ∈ lw_privs_3, lw_okq q := List.forall_mem_cons.mpr ⟨lw_p32, List.forall_mem_cons.mpr ⟨lw_p33, List.forall_mem_cons.mpr ⟨lw_p34, List.forall_mem_cons.mpr ⟨lw_p35, List.forall_mem_cons.mpr ⟨lw_p36, List.forall_mem_cons.mpr ⟨lw_p37, List.forall_mem_cons.mpr ⟨lw_p38, List.forall_mem_cons.mpr ⟨lw_p39, List.forall_mem_cons.mpr ⟨lw_p40, List.forall_mem_cons.mpr ⟨lw_p41, List.forall_mem_cons.mpr ⟨lw_p42, List.forall_mem_cons.mpr ⟨lw_p43, List.forall_mem_cons.mpr ⟨lw_p44, List.forall_mem_cons.mpr ⟨lw_p45, List.forall_mem_cons.mpr ⟨lw_p46, List.forall_mem_cons.mpr ⟨lw_p47, fun _ h => absurd h List.not_mem_nil⟩⟩⟩⟩⟩⟩⟩⟩⟩⟩⟩⟩⟩⟩⟩⟩
theorem lw_p48 : lw_okq (⟨"SundayVisitsModel", "perhaps", "(JIII)V"⟩, 17) := ⟨⟨by decide +kernel, by decide +kernel⟩, List.mem_of_getElem? (i := 733) (by decide +kernel), List.mem_of_getElem? (i := 1119) (by decide +kernel), List.mem_of_getElem? (i := 1120) (by decide +kernel)⟩
theorem lw_p49 : lw_okq (⟨"SundayVisitsModel", "numberHere", "(II)I"⟩, 17) := ⟨⟨by decide +kernel, by decide +kernel⟩, List.mem_of_getElem? (i := 733) (by decide +kernel), List.mem_of_getElem? (i := 1123) (by decide +kernel), List.mem_of_getElem? (i := 1124) (by decide +kernel)⟩
theorem lw_p50 : lw_okq (⟨"SundayVisitsModel", "visitsHere", "()V"⟩, 17) := ⟨⟨by decide +kernel, by decide +kernel⟩, List.mem_of_getElem? (i := 733) (by decide +kernel), List.mem_of_getElem? (i := 1130) (by decide +kernel), List.mem_of_getElem? (i := 1131) (by decide +kernel)⟩
theorem lw_p51 : lw_okq (⟨"SundayVisitsModel", "holding", "()I"⟩, 17) := ⟨⟨by decide +kernel, by decide +kernel⟩, List.mem_of_getElem? (i := 733) (by decide +kernel), List.mem_of_getElem? (i := 1182) (by decide +kernel), List.mem_of_getElem? (i := 1183) (by decide +kernel)⟩
def lw_privs_4 : List (MethodName × Nat) := [(⟨"SundayVisitsModel", "perhaps", "(JIII)V"⟩, 17), (⟨"SundayVisitsModel", "numberHere", "(II)I"⟩, 17), (⟨"SundayVisitsModel", "visitsHere", "()V"⟩, 17), (⟨"SundayVisitsModel", "holding", "()I"⟩, 17)]
theorem lw_r4 : ∀ q ∈ lw_privs_4, lw_okq q := List.forall_mem_cons.mpr ⟨lw_p48, List.forall_mem_cons.mpr ⟨lw_p49, List.forall_mem_cons.mpr ⟨lw_p50, List.forall_mem_cons.mpr ⟨lw_p51, fun _ h => absurd h List.not_mem_nil⟩⟩⟩⟩
def lw_privs : List (MethodName × Nat) := lw_privs_1 ++ (lw_privs_2 ++ (lw_privs_3 ++ (lw_privs_4)))
def lw_tbl : List Cond := k2_sels lw_privs ++ tables_1
theorem lw_privs_ok : ∀ q ∈ lw_privs, lw_okq q := by
  show ∀ q ∈ lw_privs_1 ++ (lw_privs_2 ++ (lw_privs_3 ++ (lw_privs_4))), lw_okq q
  exact List.forall_mem_append.mpr ⟨lw_r1, List.forall_mem_append.mpr ⟨lw_r2, List.forall_mem_append.mpr ⟨lw_r3, lw_r4⟩⟩⟩
end
section
/-! ===== BEGIN words of one list among another's, by their places ===== -/
/-! ===== END ===== -/

/-! ===== BEGIN printed: names, fields, word lists, decode rows ===== -/
def RX0 : String := "SundayVisits$Home"
def TX0 : u_T := fun k => match k with
  | 0 => ("SundayVisits$Home", "settings", "[I", true)
  | 1 => ("SundayVisits$Home", "list", "[I", true)
  | 2 => ("SundayVisits$Home", "residents", "[LSundayVisits$Resident;", true)
  | 3 => ("SundayVisits$Home", "size", "I", false)
  | 4 => ("SundayVisits$Home", "sunday", "I", false)
  | 5 => ("SundayVisits$Home", "z", "I", false)
  | 6 => ("SundayVisits$Home", "spots", "[I", true)
  | 7 => ("SundayVisits$Home", "visited", "I", false)
  | 8 => ("SundayVisits$Home", "sharing", "I", false)
  | _ => ("SundayVisits$Home", "helped", "I", false)
def tyX0 : Nat → FieldType := fun k => match k with
  | 0 => .array .int
  | 1 => .array .int
  | 2 => .array (.object "SundayVisits$Resident")
  | 3 => .int
  | 4 => .int
  | 5 => .int
  | 6 => .array .int
  | 7 => .int
  | 8 => .int
  | _ => .int
abbrev wsX00 : List Cond := u_ws RX0 TX0 10
theorem nmX0 : ∀ a, a < 10 → ∀ b, b < 10 → a ≠ b → (TX0 a).2.1 ≠ (TX0 b).2.1 := by decide +kernel
theorem tyX0_ok : ∀ k, k < 10 → parseFieldDescriptor (TX0 k).2.2.1 = some (tyX0 k) := by decide +kernel
abbrev cX0_init : ByteArray := prog_2_method_1_code
def yX0_init : MethodName := ⟨RX0, "<init>", "()V"⟩
abbrev cX0_takeAll : ByteArray := prog_2_method_2_code
def yX0_takeAll : MethodName := ⟨RX0, "takeAll", "(LSundayVisits$Home;)V"⟩
abbrev cX0_has : ByteArray := prog_2_method_3_code
def yX0_has : MethodName := ⟨RX0, "has", "(I)Z"⟩
abbrev cX0_welcome : ByteArray := prog_2_method_4_code
def yX0_welcome : MethodName := ⟨RX0, "welcome", "(I)I"⟩
abbrev cX0_factFits : ByteArray := prog_2_method_5_code
def yX0_factFits : MethodName := ⟨RX0, "factFits", "(III)Z"⟩
abbrev cX0_draw : ByteArray := prog_2_method_6_code
def yX0_draw : MethodName := ⟨RX0, "draw", "()I"⟩
abbrev cX0_pass : ByteArray := prog_2_method_7_code
def yX0_pass : MethodName := ⟨RX0, "pass", "(I)V"⟩
abbrev cX0_passSunday : ByteArray := prog_2_method_8_code
def yX0_passSunday : MethodName := ⟨RX0, "passSunday", "()V"⟩
abbrev cX0_decide : ByteArray := prog_2_method_9_code
def yX0_decide : MethodName := ⟨RX0, "decide", "()V"⟩
abbrev cX0_seated : ByteArray := prog_2_method_10_code
def yX0_seated : MethodName := ⟨RX0, "seated", "(I)I"⟩
abbrev cX0_sharers : ByteArray := prog_2_method_11_code
def yX0_sharers : MethodName := ⟨RX0, "sharers", "()I"⟩
abbrev cX0_volunteersTo : ByteArray := prog_2_method_12_code
def yX0_volunteersTo : MethodName := ⟨RX0, "volunteersTo", "(I)I"⟩
abbrev cX0_longestWaiting : ByteArray := prog_2_method_13_code
def yX0_longestWaiting : MethodName := ⟨RX0, "longestWaiting", "(I)I"⟩
abbrev cX0_keepAway : ByteArray := prog_2_method_14_code
def yX0_keepAway : MethodName := ⟨RX0, "keepAway", "(I)V"⟩
abbrev cX0_moods : ByteArray := prog_2_method_15_code
def yX0_moods : MethodName := ⟨RX0, "moods", "()I"⟩
abbrev cX0_visitsHad : ByteArray := prog_2_method_16_code
def yX0_visitsHad : MethodName := ⟨RX0, "visitsHad", "()I"⟩
abbrev cX0_lowestMood : ByteArray := prog_2_method_17_code
def yX0_lowestMood : MethodName := ⟨RX0, "lowestMood", "()I"⟩
abbrev cX0_wellOnes : ByteArray := prog_2_method_18_code
def yX0_wellOnes : MethodName := ⟨RX0, "wellOnes", "()I"⟩
abbrev cX0_heldSpots : ByteArray := prog_2_method_19_code
def yX0_heldSpots : MethodName := ⟨RX0, "heldSpots", "()I"⟩
def RX1 : String := "SundayVisits$Resident"
def TX1 : u_T := fun k => match k with
  | 0 => ("SundayVisits$Resident", "kind", "I", false)
  | 1 => ("SundayVisits$Resident", "mood", "I", false)
  | 2 => ("SundayVisits$Resident", "friend", "I", false)
  | 3 => ("SundayVisits$Resident", "waits", "I", false)
  | _ => ("SundayVisits$Resident", "came", "I", false)
def tyX1 : Nat → FieldType := fun k => match k with
  | 0 => .int
  | 1 => .int
  | 2 => .int
  | 3 => .int
  | _ => .int
abbrev wsX10 : List Cond := u_ws RX1 TX1 5
theorem nmX1 : ∀ a, a < 5 → ∀ b, b < 5 → a ≠ b → (TX1 a).2.1 ≠ (TX1 b).2.1 := by decide +kernel
theorem tyX1_ok : ∀ k, k < 5 → parseFieldDescriptor (TX1 k).2.2.1 = some (tyX1 k) := by decide +kernel
abbrev cX1_init : ByteArray := prog_3_method_1_code
def yX1_init : MethodName := ⟨RX1, "<init>", "()V"⟩
abbrev cX1_begin : ByteArray := prog_3_method_2_code
def yX1_begin : MethodName := ⟨RX1, "begin", "(I)V"⟩
abbrev cX1_take : ByteArray := prog_3_method_3_code
def yX1_take : MethodName := ⟨RX1, "take", "(LSundayVisits$Resident;)V"⟩
abbrev cX1_fact : ByteArray := prog_3_method_4_code
def yX1_fact : MethodName := ⟨RX1, "fact", "(I)I"⟩
abbrev cX1_become : ByteArray := prog_3_method_5_code
def yX1_become : MethodName := ⟨RX1, "become", "(II)V"⟩
abbrev cX1_isWell : ByteArray := prog_3_method_6_code
def yX1_isWell : MethodName := ⟨RX1, "isWell", "()Z"⟩
abbrev cX1_wellSign : ByteArray := prog_3_method_7_code
def yX1_wellSign : MethodName := ⟨RX1, "wellSign", "()I"⟩
abbrev cX1_reaches : ByteArray := prog_3_method_8_code
def yX1_reaches : MethodName := ⟨RX1, "reaches", "(II)Z"⟩
abbrev cX1_seats : ByteArray := prog_3_method_9_code
def yX1_seats : MethodName := ⟨RX1, "seats", "()I"⟩
abbrev cX1_gains : ByteArray := prog_3_method_10_code
def yX1_gains : MethodName := ⟨RX1, "gains", "(I)I"⟩
abbrev cX1_loses : ByteArray := prog_3_method_11_code
def yX1_loses : MethodName := ⟨RX1, "loses", "(I)I"⟩
abbrev cX1_shares : ByteArray := prog_3_method_12_code
def yX1_shares : MethodName := ⟨RX1, "shares", "()Z"⟩
abbrev cX1_feel : ByteArray := prog_3_method_13_code
def yX1_feel : MethodName := ⟨RX1, "feel", "(I)V"⟩
abbrev cX1_beVisited : ByteArray := prog_3_method_14_code
def yX1_beVisited : MethodName := ⟨RX1, "beVisited", "(IZ)V"⟩
abbrev cX1_beSharing : ByteArray := prog_3_method_15_code
def yX1_beSharing : MethodName := ⟨RX1, "beSharing", "(I)V"⟩
abbrev cX1_beHelped : ByteArray := prog_3_method_16_code
def yX1_beHelped : MethodName := ⟨RX1, "beHelped", "()V"⟩
abbrev cX1_beAlone : ByteArray := prog_3_method_17_code
def yX1_beAlone : MethodName := ⟨RX1, "beAlone", "(I)V"⟩
abbrev cX1_waitOn : ByteArray := prog_3_method_18_code
def yX1_waitOn : MethodName := ⟨RX1, "waitOn", "()V"⟩
def RX2 : String := "SundayVisits$Sheet"
def TX2 : u_T := fun k => match k with
  | 0 => ("SundayVisits$Sheet", "bits", "I", false)
  | 1 => ("SundayVisits$Sheet", "size", "I", false)
  | _ => ("SundayVisits$Sheet", "numbers", "[I", true)
def tyX2 : Nat → FieldType := fun k => match k with
  | 0 => .int
  | 1 => .int
  | _ => .array .int
abbrev wsX20 : List Cond := u_ws RX2 TX2 3
theorem nmX2 : ∀ a, a < 3 → ∀ b, b < 3 → a ≠ b → (TX2 a).2.1 ≠ (TX2 b).2.1 := by decide +kernel
theorem tyX2_ok : ∀ k, k < 3 → parseFieldDescriptor (TX2 k).2.2.1 = some (tyX2 k) := by decide +kernel
abbrev cX2_init : ByteArray := prog_4_method_1_code
def yX2_init : MethodName := ⟨RX2, "<init>", "()V"⟩
abbrev cX2_isMissing : ByteArray := prog_4_method_2_code
def yX2_isMissing : MethodName := ⟨RX2, "isMissing", "()Z"⟩
abbrev cX2_renew : ByteArray := prog_4_method_3_code
def yX2_renew : MethodName := ⟨RX2, "renew", "(II)V"⟩
abbrev cX2_cut : ByteArray := prog_4_method_4_code
def yX2_cut : MethodName := ⟨RX2, "cut", "(I)I"⟩
abbrev cX2_hasRun : ByteArray := prog_4_method_5_code
def yX2_hasRun : MethodName := ⟨RX2, "hasRun", "(II)Z"⟩
def RX3 : String := "SundayVisits$Tape"
def TX3 : u_T := fun k => match k with
  | 0 => ("SundayVisits$Tape", "bytes", "[I", true)
  | 1 => ("SundayVisits$Tape", "length", "I", false)
  | 2 => ("SundayVisits$Tape", "token", "I", false)
  | 3 => ("SundayVisits$Tape", "begin", "I", false)
  | 4 => ("SundayVisits$Tape", "end", "I", false)
  | _ => ("SundayVisits$Tape", "value", "I", false)
def tyX3 : Nat → FieldType := fun k => match k with
  | 0 => .array .int
  | 1 => .int
  | 2 => .int
  | 3 => .int
  | 4 => .int
  | _ => .int
abbrev wsX30 : List Cond := u_ws RX3 TX3 6
theorem nmX3 : ∀ a, a < 6 → ∀ b, b < 6 → a ≠ b → (TX3 a).2.1 ≠ (TX3 b).2.1 := by decide +kernel
theorem tyX3_ok : ∀ k, k < 6 → parseFieldDescriptor (TX3 k).2.2.1 = some (tyX3 k) := by decide +kernel
abbrev cX3_init : ByteArray := prog_5_method_1_code
def yX3_init : MethodName := ⟨RX3, "<init>", "()V"⟩
abbrev cX3_append : ByteArray := prog_5_method_2_code
def yX3_append : MethodName := ⟨RX3, "append", "(I)V"⟩
abbrev cX3_readInto : ByteArray := prog_5_method_3_code
def yX3_readInto : MethodName := ⟨RX3, "readInto", "(LSundayVisits$Home;)I"⟩
abbrev cX3_readItem : ByteArray := prog_5_method_4_code
def yX3_readItem : MethodName := ⟨RX3, "readItem", "(LSundayVisits$Home;)Z"⟩
abbrev cX3_readResident : ByteArray := prog_5_method_5_code
def yX3_readResident : MethodName := ⟨RX3, "readResident", "(LSundayVisits$Home;I)Z"⟩
abbrev cX3_readFact : ByteArray := prog_5_method_6_code
def yX3_readFact : MethodName := ⟨RX3, "readFact", "(LSundayVisits$Resident;Ljava/lang/String;II)Z"⟩
abbrev cX3_readSetting : ByteArray := prog_5_method_7_code
def yX3_readSetting : MethodName := ⟨RX3, "readSetting", "(LSundayVisits$Home;I)Z"⟩
abbrev cX3_readVisits : ByteArray := prog_5_method_8_code
def yX3_readVisits : MethodName := ⟨RX3, "readVisits", "(LSundayVisits$Home;)Z"⟩
abbrev cX3_step : ByteArray := prog_5_method_9_code
def yX3_step : MethodName := ⟨RX3, "step", "()V"⟩
abbrev cX3_isWord : ByteArray := prog_5_method_10_code
def yX3_isWord : MethodName := ⟨RX3, "isWord", "(Ljava/lang/String;)Z"⟩
abbrev cX3_isNumber : ByteArray := prog_5_method_11_code
def yX3_isNumber : MethodName := ⟨RX3, "isNumber", "(II)Z"⟩
abbrev cX3_tokenOf : ByteArray := prog_5_method_12_code
def yX3_tokenOf : MethodName := ⟨RX3, "tokenOf", "(I)I"⟩
abbrev cX3_kindWord : ByteArray := prog_5_method_13_code
def yX3_kindWord : MethodName := ⟨RX3, "kindWord", "(I)Ljava/lang/String;"⟩
abbrev cX3_settingWord : ByteArray := prog_5_method_14_code
def yX3_settingWord : MethodName := ⟨RX3, "settingWord", "(I)Ljava/lang/String;"⟩
def RX4 : String := "SundayVisits"
def TX4 : u_T := fun k => match k with
  | 0 => ("SundayVisits", "live", "LSundayVisits$Home;", true)
  | 1 => ("SundayVisits", "trial", "LSundayVisits$Home;", true)
  | 2 => ("SundayVisits", "kept", "LSundayVisits$Home;", true)
  | 3 => ("SundayVisits", "keeps", "Z", false)
  | 4 => ("SundayVisits", "tape", "LSundayVisits$Tape;", true)
  | 5 => ("SundayVisits", "sheets", "[LSundayVisits$Sheet;", true)
  | _ => ("SundayVisits", "found", "[I", true)
def tyX4 : Nat → FieldType := fun k => match k with
  | 0 => .object "SundayVisits$Home"
  | 1 => .object "SundayVisits$Home"
  | 2 => .object "SundayVisits$Home"
  | 3 => .boolean
  | 4 => .object "SundayVisits$Tape"
  | 5 => .array (.object "SundayVisits$Sheet")
  | _ => .array .int
abbrev wsX40 : List Cond := u_ws RX4 TX4 7
theorem nmX4 : ∀ a, a < 7 → ∀ b, b < 7 → a ≠ b → (TX4 a).2.1 ≠ (TX4 b).2.1 := by decide +kernel
theorem tyX4_ok : ∀ k, k < 7 → parseFieldDescriptor (TX4 k).2.2.1 = some (tyX4 k) := by decide +kernel
abbrev cX4_init : ByteArray := prog_1_method_1_code
def yX4_init : MethodName := ⟨RX4, "<init>", "()V"⟩
abbrev cX4_set : ByteArray := prog_1_method_2_code
def yX4_set : MethodName := ⟨RX4, "set", "(II)I"⟩
abbrev cX4_home : ByteArray := prog_1_method_3_code
def yX4_home : MethodName := ⟨RX4, "home", "(I)I"⟩
abbrev cX4_visit : ByteArray := prog_1_method_4_code
def yX4_visit : MethodName := ⟨RX4, "visit", "(II)I"⟩
abbrev cX4_visits : ByteArray := prog_1_method_5_code
def yX4_visits : MethodName := ⟨RX4, "visits", "(I)I"⟩
abbrev cX4_resident : ByteArray := prog_1_method_6_code
def yX4_resident : MethodName := ⟨RX4, "resident", "(I)I"⟩
abbrev cX4_of : ByteArray := prog_1_method_7_code
def yX4_of : MethodName := ⟨RX4, "of", "(II)I"⟩
abbrev cX4_change : ByteArray := prog_1_method_8_code
def yX4_change : MethodName := ⟨RX4, "change", "(III)I"⟩
abbrev cX4_go : ByteArray := prog_1_method_9_code
def yX4_go : MethodName := ⟨RX4, "go", "(I)I"⟩
abbrev cX4_now : ByteArray := prog_1_method_10_code
def yX4_now : MethodName := ⟨RX4, "now", "(I)I"⟩
abbrev cX4_ahead : ByteArray := prog_1_method_11_code
def yX4_ahead : MethodName := ⟨RX4, "ahead", "(III)I"⟩
abbrev cX4_glad : ByteArray := prog_1_method_12_code
def yX4_glad : MethodName := ⟨RX4, "glad", "(II)I"⟩
abbrev cX4_sad : ByteArray := prog_1_method_13_code
def yX4_sad : MethodName := ⟨RX4, "sad", "(II)I"⟩
abbrev cX4_when : ByteArray := prog_1_method_14_code
def yX4_when : MethodName := ⟨RX4, "when", "(II)I"⟩
abbrev cX4_well : ByteArray := prog_1_method_15_code
def yX4_well : MethodName := ⟨RX4, "well", "()I"⟩
abbrev cX4_longFor : ByteArray := prog_1_method_16_code
def yX4_longFor : MethodName := ⟨RX4, "longFor", "(I)I"⟩
abbrev cX4_chairsFor : ByteArray := prog_1_method_17_code
def yX4_chairsFor : MethodName := ⟨RX4, "chairsFor", "(II)I"⟩
abbrev cX4_volunteersFor : ByteArray := prog_1_method_18_code
def yX4_volunteersFor : MethodName := ⟨RX4, "volunteersFor", "(II)I"⟩
abbrev cX4_comeOn : ByteArray := prog_1_method_19_code
def yX4_comeOn : MethodName := ⟨RX4, "comeOn", "(II)I"⟩
abbrev cX4_kindFor : ByteArray := prog_1_method_20_code
def yX4_kindFor : MethodName := ⟨RX4, "kindFor", "(II)I"⟩
abbrev cX4_friendFor : ByteArray := prog_1_method_21_code
def yX4_friendFor : MethodName := ⟨RX4, "friendFor", "(II)I"⟩
abbrev cX4_away : ByteArray := prog_1_method_22_code
def yX4_away : MethodName := ⟨RX4, "away", "(II)I"⟩
abbrev cX4_fits : ByteArray := prog_1_method_23_code
def yX4_fits : MethodName := ⟨RX4, "fits", "(II)I"⟩
abbrev cX4_mood : ByteArray := prog_1_method_24_code
def yX4_mood : MethodName := ⟨RX4, "mood", "(II)I"⟩
abbrev cX4_kinds : ByteArray := prog_1_method_25_code
def yX4_kinds : MethodName := ⟨RX4, "kinds", "(II)I"⟩
abbrev cX4_come : ByteArray := prog_1_method_26_code
def yX4_come : MethodName := ⟨RX4, "come", "(I)I"⟩
abbrev cX4_odds : ByteArray := prog_1_method_27_code
def yX4_odds : MethodName := ⟨RX4, "odds", "(III)J"⟩
abbrev cX4_seed : ByteArray := prog_1_method_28_code
def yX4_seed : MethodName := ⟨RX4, "seed", "(I)I"⟩
abbrev cX4_feed : ByteArray := prog_1_method_29_code
def yX4_feed : MethodName := ⟨RX4, "feed", "(II)I"⟩
abbrev cX4_wipe : ByteArray := prog_1_method_30_code
def yX4_wipe : MethodName := ⟨RX4, "wipe", "()I"⟩
abbrev cX4_text : ByteArray := prog_1_method_31_code
def yX4_text : MethodName := ⟨RX4, "text", "()I"⟩
abbrev cX4_hold : ByteArray := prog_1_method_32_code
def yX4_hold : MethodName := ⟨RX4, "hold", "(II)I"⟩
abbrev cX4_as : ByteArray := prog_1_method_33_code
def yX4_as : MethodName := ⟨RX4, "as", "(II)I"⟩
abbrev cX4_sheet : ByteArray := prog_1_method_34_code
def yX4_sheet : MethodName := ⟨RX4, "sheet", "(III)I"⟩
abbrev cX4_write : ByteArray := prog_1_method_35_code
def yX4_write : MethodName := ⟨RX4, "write", "(III)I"⟩
abbrev cX4_copy : ByteArray := prog_1_method_36_code
def yX4_copy : MethodName := ⟨RX4, "copy", "(IIIII)I"⟩
abbrev cX4_load : ByteArray := prog_1_method_37_code
def yX4_load : MethodName := ⟨RX4, "load", "(I)I"⟩
abbrev cX4_judge : ByteArray := prog_1_method_38_code
def yX4_judge : MethodName := ⟨RX4, "judge", "(I)I"⟩
abbrev cX4_image : ByteArray := prog_1_method_39_code
def yX4_image : MethodName := ⟨RX4, "image", "()I"⟩
abbrev cX4_undo : ByteArray := prog_1_method_40_code
def yX4_undo : MethodName := ⟨RX4, "undo", "()I"⟩
abbrev cX4_tear : ByteArray := prog_1_method_41_code
def yX4_tear : MethodName := ⟨RX4, "tear", "()I"⟩
abbrev cX4_count : ByteArray := prog_1_method_42_code
def yX4_count : MethodName := ⟨RX4, "count", "(I)I"⟩
abbrev cX4_status : ByteArray := prog_1_method_43_code
def yX4_status : MethodName := ⟨RX4, "status", "(I)I"⟩
abbrev cX4_tell : ByteArray := prog_1_method_44_code
def yX4_tell : MethodName := ⟨RX4, "tell", "(I)I"⟩
abbrev cX4_lackOf : ByteArray := prog_1_method_45_code
def yX4_lackOf : MethodName := ⟨RX4, "lackOf", "(I)I"⟩
abbrev cX4_lackFor : ByteArray := prog_1_method_46_code
def yX4_lackFor : MethodName := ⟨RX4, "lackFor", "(II)I"⟩
abbrev cX4_beginTrial : ByteArray := prog_1_method_47_code
def yX4_beginTrial : MethodName := ⟨RX4, "beginTrial", "()V"⟩
abbrev cX4_tryWith : ByteArray := prog_1_method_48_code
def yX4_tryWith : MethodName := ⟨RX4, "tryWith", "(III)V"⟩
abbrev cX4_bestChoice : ByteArray := prog_1_method_49_code
def yX4_bestChoice : MethodName := ⟨RX4, "bestChoice", "(IIII)I"⟩
abbrev cX4_suppose : ByteArray := prog_1_method_50_code
def yX4_suppose : MethodName := ⟨RX4, "suppose", "(III)V"⟩
abbrev cX4_friendOfChoice : ByteArray := prog_1_method_51_code
def yX4_friendOfChoice : MethodName := ⟨RX4, "friendOfChoice", "(II)I"⟩
abbrev cX4_firstSunday : ByteArray := prog_1_method_52_code
def yX4_firstSunday : MethodName := ⟨RX4, "firstSunday", "(III)I"⟩
abbrev cX4_moodFits : ByteArray := prog_1_method_53_code
def yX4_moodFits : MethodName := ⟨RX4, "moodFits", "(LSundayVisits$Sheet;II)Z"⟩
abbrev cX4_kindFits : ByteArray := prog_1_method_54_code
def yX4_kindFits : MethodName := ⟨RX4, "kindFits", "(LSundayVisits$Sheet;II)Z"⟩
abbrev cX4_goesAsTold : ByteArray := prog_1_method_55_code
def yX4_goesAsTold : MethodName := ⟨RX4, "goesAsTold", "(LSundayVisits$Sheet;LSundayVisits$Resident;Z)Z"⟩
abbrev cX4_within : ByteArray := prog_1_method_56_code
def yX4_within : MethodName := ⟨RX4, "within", "(III)Z"⟩
abbrev cX4_isIn : ByteArray := prog_1_method_57_code
def yX4_isIn : MethodName := ⟨RX4, "isIn", "(II)Z"⟩
abbrev cX4_leastSetting : ByteArray := prog_1_method_58_code
def yX4_leastSetting : MethodName := ⟨RX4, "leastSetting", "(I)I"⟩
abbrev cX4_mostSetting : ByteArray := prog_1_method_59_code
def yX4_mostSetting : MethodName := ⟨RX4, "mostSetting", "(I)I"⟩
abbrev cX4_settingFits : ByteArray := prog_1_method_60_code
def yX4_settingFits : MethodName := ⟨RX4, "settingFits", "(II)Z"⟩
abbrev cX4_kindAbove : ByteArray := prog_1_method_61_code
def yX4_kindAbove : MethodName := ⟨RX4, "kindAbove", "(I)I"⟩
abbrev cX4_isUnder : ByteArray := prog_1_method_62_code
def yX4_isUnder : MethodName := ⟨RX4, "isUnder", "(II)Z"⟩
abbrev cX4_power : ByteArray := prog_1_method_63_code
def yX4_power : MethodName := ⟨RX4, "power", "(II)J"⟩
def RX5 : String := "SundayVisitsModel"
def TX5 : u_T := fun k => match k with
  | 0 => ("SundayVisitsModel", "d", "[I", true)
  | 1 => ("SundayVisitsModel", "e", "[I", true)
  | 2 => ("SundayVisitsModel", "aside", "[I", true)
  | 3 => ("SundayVisitsModel", "kept", "[I", true)
  | 4 => ("SundayVisitsModel", "isKept", "Z", false)
  | 5 => ("SundayVisitsModel", "found", "[I", true)
  | 6 => ("SundayVisitsModel", "tape", "[B", true)
  | 7 => ("SundayVisitsModel", "taped", "I", false)
  | 8 => ("SundayVisitsModel", "at", "I", false)
  | 9 => ("SundayVisitsModel", "sort", "I", false)
  | 10 => ("SundayVisitsModel", "from", "I", false)
  | 11 => ("SundayVisitsModel", "value", "J", false)
  | 12 => ("SundayVisitsModel", "fault", "I", false)
  | 13 => ("SundayVisitsModel", "bitsOf", "[I", true)
  | 14 => ("SundayVisitsModel", "sizeOf", "[I", true)
  | 15 => ("SundayVisitsModel", "number", "[I", true)
  | _ => ("SundayVisitsModel", "passing", "[I", true)
def tyX5 : Nat → FieldType := fun k => match k with
  | 0 => .array .int
  | 1 => .array .int
  | 2 => .array .int
  | 3 => .array .int
  | 4 => .boolean
  | 5 => .array .int
  | 6 => .array .byte
  | 7 => .int
  | 8 => .int
  | 9 => .int
  | 10 => .int
  | 11 => .long
  | 12 => .int
  | 13 => .array .int
  | 14 => .array .int
  | 15 => .array .int
  | _ => .array .int
abbrev wsX50 : List Cond := u_ws RX5 TX5 17
theorem nmX5 : ∀ a, a < 17 → ∀ b, b < 17 → a ≠ b → (TX5 a).2.1 ≠ (TX5 b).2.1 := by decide +kernel
theorem tyX5_ok : ∀ k, k < 17 → parseFieldDescriptor (TX5 k).2.2.1 = some (tyX5 k) := by decide +kernel
abbrev cX5_init : ByteArray := prog_7_method_1_code
def yX5_init : MethodName := ⟨RX5, "<init>", "()V"⟩
abbrev cX5_finds : ByteArray := prog_7_method_3_code
def yX5_finds : MethodName := ⟨RX5, "finds", "(I)I"⟩
abbrev cX5_in : ByteArray := prog_7_method_4_code
def yX5_in : MethodName := ⟨RX5, "in", "(JJJ)Z"⟩
abbrev cX5_held : ByteArray := prog_7_method_5_code
def yX5_held : MethodName := ⟨RX5, "held", "(III)I"⟩
abbrev cX5_copies : ByteArray := prog_7_method_6_code
def yX5_copies : MethodName := ⟨RX5, "copies", "([I[I)V"⟩
abbrev cX5_isResident : ByteArray := prog_7_method_7_code
def yX5_isResident : MethodName := ⟨RX5, "isResident", "(I)Z"⟩
abbrev cX5_its : ByteArray := prog_7_method_8_code
def yX5_its : MethodName := ⟨RX5, "its", "(II)I"⟩
abbrev cX5_sets : ByteArray := prog_7_method_9_code
def yX5_sets : MethodName := ⟨RX5, "sets", "(III)V"⟩
abbrev cX5_becomes : ByteArray := prog_7_method_10_code
def yX5_becomes : MethodName := ⟨RX5, "becomes", "(II)I"⟩
abbrev cX5_ones : ByteArray := prog_7_method_11_code
def yX5_ones : MethodName := ⟨RX5, "ones", "(I)I"⟩
abbrev cX5_seats : ByteArray := prog_7_method_12_code
def yX5_seats : MethodName := ⟨RX5, "seats", "(I)I"⟩
abbrev cX5_gains : ByteArray := prog_7_method_13_code
def yX5_gains : MethodName := ⟨RX5, "gains", "(I)I"⟩
abbrev cX5_loses : ByteArray := prog_7_method_14_code
def yX5_loses : MethodName := ⟨RX5, "loses", "(II)I"⟩
abbrev cX5_shares : ByteArray := prog_7_method_15_code
def yX5_shares : MethodName := ⟨RX5, "shares", "(I)Z"⟩
abbrev cX5_visitedOf : ByteArray := prog_7_method_16_code
def yX5_visitedOf : MethodName := ⟨RX5, "visitedOf", "(I)I"⟩
abbrev cX5_todays : ByteArray := prog_7_method_17_code
def yX5_todays : MethodName := ⟨RX5, "todays", "()I"⟩
abbrev cX5_sharersOf : ByteArray := prog_7_method_18_code
def yX5_sharersOf : MethodName := ⟨RX5, "sharersOf", "(I)I"⟩
abbrev cX5_longest : ByteArray := prog_7_method_19_code
def yX5_longest : MethodName := ⟨RX5, "longest", "(I)I"⟩
abbrev cX5_helpedOf : ByteArray := prog_7_method_20_code
def yX5_helpedOf : MethodName := ⟨RX5, "helpedOf", "(I)I"⟩
abbrev cX5_sundayGoes : ByteArray := prog_7_method_21_code
def yX5_sundayGoes : MethodName := ⟨RX5, "sundayGoes", "()V"⟩
abbrev cX5_sundaysGo : ByteArray := prog_7_method_22_code
def yX5_sundaysGo : MethodName := ⟨RX5, "sundaysGo", "(I)V"⟩
abbrev cX5_sumOf : ByteArray := prog_7_method_23_code
def yX5_sumOf : MethodName := ⟨RX5, "sumOf", "(I)I"⟩
abbrev cX5_wells : ByteArray := prog_7_method_24_code
def yX5_wells : MethodName := ⟨RX5, "wells", "()I"⟩
abbrev cX5_isSet : ByteArray := prog_7_method_25_code
def yX5_isSet : MethodName := ⟨RX5, "isSet", "(II)Z"⟩
abbrev cX5_set : ByteArray := prog_7_method_26_code
def yX5_set : MethodName := ⟨RX5, "set", "(II)I"⟩
abbrev cX5_home : ByteArray := prog_7_method_27_code
def yX5_home : MethodName := ⟨RX5, "home", "(I)I"⟩
abbrev cX5_isPlace : ByteArray := prog_7_method_28_code
def yX5_isPlace : MethodName := ⟨RX5, "isPlace", "(I)Z"⟩
abbrev cX5_visit : ByteArray := prog_7_method_29_code
def yX5_visit : MethodName := ⟨RX5, "visit", "(II)I"⟩
abbrev cX5_visits : ByteArray := prog_7_method_30_code
def yX5_visits : MethodName := ⟨RX5, "visits", "(I)I"⟩
abbrev cX5_comes : ByteArray := prog_7_method_31_code
def yX5_comes : MethodName := ⟨RX5, "comes", "(I)I"⟩
abbrev cX5_resident : ByteArray := prog_7_method_32_code
def yX5_resident : MethodName := ⟨RX5, "resident", "(I)I"⟩
abbrev cX5_of : ByteArray := prog_7_method_33_code
def yX5_of : MethodName := ⟨RX5, "of", "(II)I"⟩
abbrev cX5_isIts : ByteArray := prog_7_method_34_code
def yX5_isIts : MethodName := ⟨RX5, "isIts", "(III)Z"⟩
abbrev cX5_change : ByteArray := prog_7_method_35_code
def yX5_change : MethodName := ⟨RX5, "change", "(III)I"⟩
abbrev cX5_go : ByteArray := prog_7_method_36_code
def yX5_go : MethodName := ⟨RX5, "go", "(I)I"⟩
abbrev cX5_now : ByteArray := prog_7_method_37_code
def yX5_now : MethodName := ⟨RX5, "now", "(I)I"⟩
abbrev cX5_behind : ByteArray := prog_7_method_38_code
def yX5_behind : MethodName := ⟨RX5, "behind", "(II)I"⟩
abbrev cX5_ahead : ByteArray := prog_7_method_39_code
def yX5_ahead : MethodName := ⟨RX5, "ahead", "(III)I"⟩
abbrev cX5_firstOf : ByteArray := prog_7_method_40_code
def yX5_firstOf : MethodName := ⟨RX5, "firstOf", "(III)I"⟩
abbrev cX5_glad : ByteArray := prog_7_method_41_code
def yX5_glad : MethodName := ⟨RX5, "glad", "(II)I"⟩
abbrev cX5_sad : ByteArray := prog_7_method_42_code
def yX5_sad : MethodName := ⟨RX5, "sad", "(II)I"⟩
abbrev cX5_when : ByteArray := prog_7_method_43_code
def yX5_when : MethodName := ⟨RX5, "when", "(II)I"⟩
abbrev cX5_areAll : ByteArray := prog_7_method_44_code
def yX5_areAll : MethodName := ⟨RX5, "areAll", "()Z"⟩
abbrev cX5_well : ByteArray := prog_7_method_45_code
def yX5_well : MethodName := ⟨RX5, "well", "()I"⟩
abbrev cX5_isShort : ByteArray := prog_7_method_46_code
def yX5_isShort : MethodName := ⟨RX5, "isShort", "(I)Z"⟩
abbrev cX5_longFor : ByteArray := prog_7_method_47_code
def yX5_longFor : MethodName := ⟨RX5, "longFor", "(I)I"⟩
abbrev cX5_chairsFor : ByteArray := prog_7_method_48_code
def yX5_chairsFor : MethodName := ⟨RX5, "chairsFor", "(II)I"⟩
abbrev cX5_volunteersFor : ByteArray := prog_7_method_49_code
def yX5_volunteersFor : MethodName := ⟨RX5, "volunteersFor", "(II)I"⟩
abbrev cX5_comeOn : ByteArray := prog_7_method_50_code
def yX5_comeOn : MethodName := ⟨RX5, "comeOn", "(II)I"⟩
abbrev cX5_kindFor : ByteArray := prog_7_method_51_code
def yX5_kindFor : MethodName := ⟨RX5, "kindFor", "(II)I"⟩
abbrev cX5_friendFor : ByteArray := prog_7_method_52_code
def yX5_friendFor : MethodName := ⟨RX5, "friendFor", "(II)I"⟩
abbrev cX5_away : ByteArray := prog_7_method_53_code
def yX5_away : MethodName := ⟨RX5, "away", "(II)I"⟩
abbrev cX5_whyNot : ByteArray := prog_7_method_54_code
def yX5_whyNot : MethodName := ⟨RX5, "whyNot", "(II)I"⟩
abbrev cX5_isTold : ByteArray := prog_7_method_55_code
def yX5_isTold : MethodName := ⟨RX5, "isTold", "(IIZ)Z"⟩
abbrev cX5_fits : ByteArray := prog_7_method_56_code
def yX5_fits : MethodName := ⟨RX5, "fits", "(II)I"⟩
abbrev cX5_mood : ByteArray := prog_7_method_57_code
def yX5_mood : MethodName := ⟨RX5, "mood", "(II)I"⟩
abbrev cX5_kinds : ByteArray := prog_7_method_58_code
def yX5_kinds : MethodName := ⟨RX5, "kinds", "(II)I"⟩
abbrev cX5_draw : ByteArray := prog_7_method_59_code
def yX5_draw : MethodName := ⟨RX5, "draw", "()I"⟩
abbrev cX5_come : ByteArray := prog_7_method_60_code
def yX5_come : MethodName := ⟨RX5, "come", "(I)I"⟩
abbrev cX5_odds : ByteArray := prog_7_method_61_code
def yX5_odds : MethodName := ⟨RX5, "odds", "(III)J"⟩
abbrev cX5_seed : ByteArray := prog_7_method_62_code
def yX5_seed : MethodName := ⟨RX5, "seed", "(I)I"⟩
abbrev cX5_feed : ByteArray := prog_7_method_63_code
def yX5_feed : MethodName := ⟨RX5, "feed", "(II)I"⟩
abbrev cX5_wipe : ByteArray := prog_7_method_64_code
def yX5_wipe : MethodName := ⟨RX5, "wipe", "()I"⟩
abbrev cX5_letter : ByteArray := prog_7_method_65_code
def yX5_letter : MethodName := ⟨RX5, "letter", "(I)I"⟩
abbrev cX5_isDigit : ByteArray := prog_7_method_66_code
def yX5_isDigit : MethodName := ⟨RX5, "isDigit", "(I)Z"⟩
abbrev cX5_byteAt : ByteArray := prog_7_method_67_code
def yX5_byteAt : MethodName := ⟨RX5, "byteAt", "(I)I"⟩
abbrev cX5_next : ByteArray := prog_7_method_68_code
def yX5_next : MethodName := ⟨RX5, "next", "()V"⟩
abbrev cX5_wrongHere : ByteArray := prog_7_method_69_code
def yX5_wrongHere : MethodName := ⟨RX5, "wrongHere", "()V"⟩
abbrev cX5_isWord : ByteArray := prog_7_method_70_code
def yX5_isWord : MethodName := ⟨RX5, "isWord", "(J)Z"⟩
abbrev cX5_kindHere : ByteArray := prog_7_method_71_code
def yX5_kindHere : MethodName := ⟨RX5, "kindHere", "()I"⟩
abbrev cX5_setHere : ByteArray := prog_7_method_72_code
def yX5_setHere : MethodName := ⟨RX5, "setHere", "()I"⟩
abbrev cX5_numberHere : ByteArray := prog_7_method_73_code
def yX5_numberHere : MethodName := ⟨RX5, "numberHere", "(II)I"⟩
abbrev cX5_perhaps : ByteArray := prog_7_method_74_code
def yX5_perhaps : MethodName := ⟨RX5, "perhaps", "(JIII)V"⟩
abbrev cX5_residentHere : ByteArray := prog_7_method_75_code
def yX5_residentHere : MethodName := ⟨RX5, "residentHere", "(I)V"⟩
abbrev cX5_visitsHere : ByteArray := prog_7_method_76_code
def yX5_visitsHere : MethodName := ⟨RX5, "visitsHere", "()V"⟩
abbrev cX5_item : ByteArray := prog_7_method_77_code
def yX5_item : MethodName := ⟨RX5, "item", "()V"⟩
abbrev cX5_items : ByteArray := prog_7_method_78_code
def yX5_items : MethodName := ⟨RX5, "items", "()I"⟩
abbrev cX5_text : ByteArray := prog_7_method_79_code
def yX5_text : MethodName := ⟨RX5, "text", "()I"⟩
abbrev cX5_hold : ByteArray := prog_7_method_80_code
def yX5_hold : MethodName := ⟨RX5, "hold", "(II)I"⟩
abbrev cX5_above : ByteArray := prog_7_method_81_code
def yX5_above : MethodName := ⟨RX5, "above", "(I)I"⟩
abbrev cX5_as : ByteArray := prog_7_method_82_code
def yX5_as : MethodName := ⟨RX5, "as", "(II)I"⟩
abbrev cX5_isSheet : ByteArray := prog_7_method_83_code
def yX5_isSheet : MethodName := ⟨RX5, "isSheet", "(I)Z"⟩
abbrev cX5_sheet : ByteArray := prog_7_method_84_code
def yX5_sheet : MethodName := ⟨RX5, "sheet", "(III)I"⟩
abbrev cX5_whyNone : ByteArray := prog_7_method_85_code
def yX5_whyNone : MethodName := ⟨RX5, "whyNone", "(I)I"⟩
abbrev cX5_write : ByteArray := prog_7_method_86_code
def yX5_write : MethodName := ⟨RX5, "write", "(III)I"⟩
abbrev cX5_copy : ByteArray := prog_7_method_87_code
def yX5_copy : MethodName := ⟨RX5, "copy", "(IIIII)I"⟩
abbrev cX5_load : ByteArray := prog_7_method_88_code
def yX5_load : MethodName := ⟨RX5, "load", "(I)I"⟩
abbrev cX5_judge : ByteArray := prog_7_method_89_code
def yX5_judge : MethodName := ⟨RX5, "judge", "(I)I"⟩
abbrev cX5_image : ByteArray := prog_7_method_90_code
def yX5_image : MethodName := ⟨RX5, "image", "()I"⟩
abbrev cX5_undo : ByteArray := prog_7_method_91_code
def yX5_undo : MethodName := ⟨RX5, "undo", "()I"⟩
abbrev cX5_tear : ByteArray := prog_7_method_92_code
def yX5_tear : MethodName := ⟨RX5, "tear", "()I"⟩
abbrev cX5_holding : ByteArray := prog_7_method_93_code
def yX5_holding : MethodName := ⟨RX5, "holding", "()I"⟩
abbrev cX5_count : ByteArray := prog_7_method_94_code
def yX5_count : MethodName := ⟨RX5, "count", "(I)I"⟩
abbrev cX5_status : ByteArray := prog_7_method_95_code
def yX5_status : MethodName := ⟨RX5, "status", "(I)I"⟩
def RJx145de : String := "java/io/Serializable"
def TJx145de : u_T := fun k => match k with
  | _ => ("", "", "", false)
def tyJx145de : Nat → FieldType := fun k => match k with
  | _ => .int
abbrev wsJx145de0 : List Cond := u_ws RJx145de TJx145de 0
theorem nmJx145de : ∀ a, a < 0 → ∀ b, b < 0 → a ≠ b → (TJx145de a).2.1 ≠ (TJx145de b).2.1 := by decide +kernel
theorem tyJx145de_ok : ∀ k, k < 0 → parseFieldDescriptor (TJx145de k).2.2.1 = some (tyJx145de k) := by decide +kernel
def RJx9f9b0 : String := "java/lang/CharSequence"
def TJx9f9b0 : u_T := fun k => match k with
  | _ => ("", "", "", false)
def tyJx9f9b0 : Nat → FieldType := fun k => match k with
  | _ => .int
abbrev wsJx9f9b00 : List Cond := u_ws RJx9f9b0 TJx9f9b0 0
theorem nmJx9f9b0 : ∀ a, a < 0 → ∀ b, b < 0 → a ≠ b → (TJx9f9b0 a).2.1 ≠ (TJx9f9b0 b).2.1 := by decide +kernel
theorem tyJx9f9b0_ok : ∀ k, k < 0 → parseFieldDescriptor (TJx9f9b0 k).2.2.1 = some (tyJx9f9b0 k) := by decide +kernel
def RJxb160c : String := "java/lang/Comparable"
def TJxb160c : u_T := fun k => match k with
  | _ => ("", "", "", false)
def tyJxb160c : Nat → FieldType := fun k => match k with
  | _ => .int
abbrev wsJxb160c0 : List Cond := u_ws RJxb160c TJxb160c 0
theorem nmJxb160c : ∀ a, a < 0 → ∀ b, b < 0 → a ≠ b → (TJxb160c a).2.1 ≠ (TJxb160c b).2.1 := by decide +kernel
theorem tyJxb160c_ok : ∀ k, k < 0 → parseFieldDescriptor (TJxb160c k).2.2.1 = some (tyJxb160c k) := by decide +kernel
def RJ6 : String := "java/lang/Integer"
def TJ6 : u_T := fun k => match k with
  | _ => ("", "", "", false)
def tyJ6 : Nat → FieldType := fun k => match k with
  | _ => .int
abbrev wsJ60 : List Cond := u_ws RJ6 TJ6 0
theorem nmJ6 : ∀ a, a < 0 → ∀ b, b < 0 → a ≠ b → (TJ6 a).2.1 ≠ (TJ6 b).2.1 := by decide +kernel
theorem tyJ6_ok : ∀ k, k < 0 → parseFieldDescriptor (TJ6 k).2.2.1 = some (tyJ6 k) := by decide +kernel
abbrev cJ6_bitCount_0f7a4 : ByteArray := prog_8_method_49_code
def yJ6_bitCount_0f7a4 : MethodName := ⟨RJ6, "bitCount", "(I)I"⟩
def RJ9 : String := "java/lang/Math"
def TJ9 : u_T := fun k => match k with
  | _ => ("", "", "", false)
def tyJ9 : Nat → FieldType := fun k => match k with
  | _ => .int
abbrev wsJ90 : List Cond := u_ws RJ9 TJ9 0
theorem nmJ9 : ∀ a, a < 0 → ∀ b, b < 0 → a ≠ b → (TJ9 a).2.1 ≠ (TJ9 b).2.1 := by decide +kernel
theorem tyJ9_ok : ∀ k, k < 0 → parseFieldDescriptor (TJ9 k).2.2.1 = some (tyJ9 k) := by decide +kernel
abbrev cJ9_max_7cf53 : ByteArray := prog_9_method_65_code
def yJ9_max_7cf53 : MethodName := ⟨RJ9, "max", "(II)I"⟩
abbrev cJ9_min_7cf53 : ByteArray := prog_9_method_69_code
def yJ9_min_7cf53 : MethodName := ⟨RJ9, "min", "(II)I"⟩
def RJ0 : String := "java/lang/String"
def TJ0 : u_T := fun k => match k with
  | _ => ("", "", "", false)
def tyJ0 : Nat → FieldType := fun k => match k with
  | _ => .int
abbrev wsJ00 : List Cond := u_ws RJ0 TJ0 0
theorem nmJ0 : ∀ a, a < 0 → ∀ b, b < 0 → a ≠ b → (TJ0 a).2.1 ≠ (TJ0 b).2.1 := by decide +kernel
theorem tyJ0_ok : ∀ k, k < 0 → parseFieldDescriptor (TJ0 k).2.2.1 = some (tyJ0 k) := by decide +kernel
abbrev cJ0_length_8abf5 : ByteArray := prog_10_method_54_code
def yJ0_length_8abf5 : MethodName := ⟨RJ0, "length", "()I"⟩
abbrev cJ0_charAt_5068e : ByteArray := prog_10_method_56_code
def yJ0_charAt_5068e : MethodName := ⟨RJ0, "charAt", "(I)C"⟩
abbrev cJ0_coder_7d493 : ByteArray := prog_10_method_152_code
def yJ0_coder_7d493 : MethodName := ⟨RJ0, "coder", "()B"⟩
abbrev cJ0_isLatin1_aae02 : ByteArray := prog_10_method_154_code
def yJ0_isLatin1_aae02 : MethodName := ⟨RJ0, "isLatin1", "()Z"⟩
abbrev cJ0_checkIndex_df160 : ByteArray := prog_10_method_155_code
def yJ0_checkIndex_df160 : MethodName := ⟨RJ0, "checkIndex", "(II)V"⟩
def RJ1 : String := "java/lang/StringLatin1"
def TJ1 : u_T := fun k => match k with
  | _ => ("", "", "", false)
def tyJ1 : Nat → FieldType := fun k => match k with
  | _ => .int
abbrev wsJ10 : List Cond := u_ws RJ1 TJ1 0
theorem nmJ1 : ∀ a, a < 0 → ∀ b, b < 0 → a ≠ b → (TJ1 a).2.1 ≠ (TJ1 b).2.1 := by decide +kernel
theorem tyJ1_ok : ∀ k, k < 0 → parseFieldDescriptor (TJ1 k).2.2.1 = some (tyJ1 k) := by decide +kernel
abbrev cJ1_charAt_3b067 : ByteArray := prog_11_method_2_code
def yJ1_charAt_3b067 : MethodName := ⟨RJ1, "charAt", "([BI)C"⟩
def RJ2 : String := "java/lang/StringUTF16"
def TJ2 : u_T := fun k => match k with
  | _ => ("", "", "", false)
def tyJ2 : Nat → FieldType := fun k => match k with
  | _ => .int
abbrev wsJ20 : List Cond := u_ws RJ2 TJ2 0
theorem nmJ2 : ∀ a, a < 0 → ∀ b, b < 0 → a ≠ b → (TJ2 a).2.1 ≠ (TJ2 b).2.1 := by decide +kernel
theorem tyJ2_ok : ∀ k, k < 0 → parseFieldDescriptor (TJ2 k).2.2.1 = some (tyJ2 k) := by decide +kernel
abbrev cJ2_getChar_3b067 : ByteArray := prog_12_method_5_code
def yJ2_getChar_3b067 : MethodName := ⟨RJ2, "getChar", "([BI)C"⟩
abbrev cJ2_length_9d52b : ByteArray := prog_12_method_6_code
def yJ2_length_9d52b : MethodName := ⟨RJ2, "length", "([B)I"⟩
abbrev cJ2_charAt_3b067 : ByteArray := prog_12_method_83_code
def yJ2_charAt_3b067 : MethodName := ⟨RJ2, "charAt", "([BI)C"⟩
abbrev cJ2_checkIndex_2214a : ByteArray := prog_12_method_91_code
def yJ2_checkIndex_2214a : MethodName := ⟨RJ2, "checkIndex", "(I[B)V"⟩
def RJ10 : String := "java/lang/System"
def TJ10 : u_T := fun k => match k with
  | _ => ("", "", "", false)
def tyJ10 : Nat → FieldType := fun k => match k with
  | _ => .int
abbrev wsJ100 : List Cond := u_ws RJ10 TJ10 0
theorem nmJ10 : ∀ a, a < 0 → ∀ b, b < 0 → a ≠ b → (TJ10 a).2.1 ≠ (TJ10 b).2.1 := by decide +kernel
theorem tyJ10_ok : ∀ k, k < 0 → parseFieldDescriptor (TJ10 k).2.2.1 = some (tyJ10 k) := by decide +kernel
def RJxfd54e : String := "java/lang/constant/Constable"
def TJxfd54e : u_T := fun k => match k with
  | _ => ("", "", "", false)
def tyJxfd54e : Nat → FieldType := fun k => match k with
  | _ => .int
abbrev wsJxfd54e0 : List Cond := u_ws RJxfd54e TJxfd54e 0
theorem nmJxfd54e : ∀ a, a < 0 → ∀ b, b < 0 → a ≠ b → (TJxfd54e a).2.1 ≠ (TJxfd54e b).2.1 := by decide +kernel
theorem tyJxfd54e_ok : ∀ k, k < 0 → parseFieldDescriptor (TJxfd54e k).2.2.1 = some (tyJxfd54e k) := by decide +kernel
def RJx3cf43 : String := "java/lang/constant/ConstantDesc"
def TJx3cf43 : u_T := fun k => match k with
  | _ => ("", "", "", false)
def tyJx3cf43 : Nat → FieldType := fun k => match k with
  | _ => .int
abbrev wsJx3cf430 : List Cond := u_ws RJx3cf43 TJx3cf43 0
theorem nmJx3cf43 : ∀ a, a < 0 → ∀ b, b < 0 → a ≠ b → (TJx3cf43 a).2.1 ≠ (TJx3cf43 b).2.1 := by decide +kernel
theorem tyJx3cf43_ok : ∀ k, k < 0 → parseFieldDescriptor (TJx3cf43 k).2.2.1 = some (tyJx3cf43 k) := by decide +kernel
def RJ7 : String := "java/util/Arrays"
def TJ7 : u_T := fun k => match k with
  | _ => ("", "", "", false)
def tyJ7 : Nat → FieldType := fun k => match k with
  | _ => .int
abbrev wsJ70 : List Cond := u_ws RJ7 TJ7 0
theorem nmJ7 : ∀ a, a < 0 → ∀ b, b < 0 → a ≠ b → (TJ7 a).2.1 ≠ (TJ7 b).2.1 := by decide +kernel
theorem tyJ7_ok : ∀ k, k < 0 → parseFieldDescriptor (TJ7 k).2.2.1 = some (tyJ7 k) := by decide +kernel
abbrev cJ7_fill_53178 : ByteArray := prog_14_method_103_code
def yJ7_fill_53178 : MethodName := ⟨RJ7, "fill", "([II)V"⟩
def RJ3 : String := "jdk/internal/util/Preconditions"
def TJ3 : u_T := fun k => match k with
  | _ => ("", "", "", false)
def tyJ3 : Nat → FieldType := fun k => match k with
  | _ => .int
abbrev wsJ30 : List Cond := u_ws RJ3 TJ3 0
theorem nmJ3 : ∀ a, a < 0 → ∀ b, b < 0 → a ≠ b → (TJ3 a).2.1 ≠ (TJ3 b).2.1 := by decide +kernel
theorem tyJ3_ok : ∀ k, k < 0 → parseFieldDescriptor (TJ3 k).2.2.1 = some (tyJ3 k) := by decide +kernel
abbrev cJ3_checkIndex_8e157 : ByteArray := prog_15_method_11_code
def yJ3_checkIndex_8e157 : MethodName := ⟨RJ3, "checkIndex", "(IILjava/util/function/BiFunction;)I"⟩
def RL : String := "SundayVisitsLaw"
abbrev cL_law : ByteArray := code
def yL_law : MethodName := ⟨RL, "law", "([I)Z"⟩
abbrev vwCl : List vw_C := [(RX0, TX0, 10), (RX1, TX1, 5), (RX2, TX2, 3), (RX3, TX3, 6), (RX4, TX4, 7), (RX5, TX5, 17)]
end
section
theorem dX0_init_0 : decode cX0_init 0 = .ok (.aload_n 0, 1) := by decide +kernel
theorem dX0_init_1 : decode cX0_init 1 = .ok (.invokespecial 3, 3) := by decide +kernel
theorem dX0_init_4 : decode cX0_init 4 = .ok (.aload_n 0, 1) := by decide +kernel
theorem dX0_init_5 : decode cX0_init 5 = .ok (.iconst 4, 1) := by decide +kernel
theorem dX0_init_6 : decode cX0_init 6 = .ok (.newarray .int, 2) := by decide +kernel
theorem dX0_init_8 : decode cX0_init 8 = .ok (.putfield 9, 3) := by decide +kernel
theorem dX0_init_11 : decode cX0_init 11 = .ok (.aload_n 0, 1) := by decide +kernel
theorem dX0_init_12 : decode cX0_init 12 = .ok (.getfield 9, 3) := by decide +kernel
theorem dX0_init_15 : decode cX0_init 15 = .ok (.iconst 0, 1) := by decide +kernel
theorem dX0_init_16 : decode cX0_init 16 = .ok (.bipush 6, 2) := by decide +kernel
theorem dX0_init_18 : decode cX0_init 18 = .ok (.iastore, 1) := by decide +kernel
theorem dX0_init_19 : decode cX0_init 19 = .ok (.aload_n 0, 1) := by decide +kernel
theorem dX0_init_20 : decode cX0_init 20 = .ok (.getfield 9, 3) := by decide +kernel
theorem dX0_init_23 : decode cX0_init 23 = .ok (.iconst 1, 1) := by decide +kernel
theorem dX0_init_24 : decode cX0_init 24 = .ok (.bipush 11, 2) := by decide +kernel
theorem dX0_init_26 : decode cX0_init 26 = .ok (.iastore, 1) := by decide +kernel
theorem dX0_init_27 : decode cX0_init 27 = .ok (.aload_n 0, 1) := by decide +kernel
theorem dX0_init_28 : decode cX0_init 28 = .ok (.getfield 9, 3) := by decide +kernel
theorem dX0_init_31 : decode cX0_init 31 = .ok (.iconst 2, 1) := by decide +kernel
theorem dX0_init_32 : decode cX0_init 32 = .ok (.iconst 1, 1) := by decide +kernel
theorem dX0_init_33 : decode cX0_init 33 = .ok (.iastore, 1) := by decide +kernel
theorem dX0_init_34 : decode cX0_init 34 = .ok (.aload_n 0, 1) := by decide +kernel
theorem dX0_init_35 : decode cX0_init 35 = .ok (.getfield 9, 3) := by decide +kernel
theorem dX0_init_38 : decode cX0_init 38 = .ok (.iconst 3, 1) := by decide +kernel
theorem dX0_init_39 : decode cX0_init 39 = .ok (.iconst 4, 1) := by decide +kernel
theorem dX0_init_40 : decode cX0_init 40 = .ok (.iastore, 1) := by decide +kernel
theorem dX0_init_41 : decode cX0_init 41 = .ok (.aload_n 0, 1) := by decide +kernel
theorem dX0_init_42 : decode cX0_init 42 = .ok (.bipush 6, 2) := by decide +kernel
theorem dX0_init_44 : decode cX0_init 44 = .ok (.newarray .int, 2) := by decide +kernel
theorem dX0_init_46 : decode cX0_init 46 = .ok (.putfield 15, 3) := by decide +kernel
theorem dX0_init_49 : decode cX0_init 49 = .ok (.aload_n 0, 1) := by decide +kernel
theorem dX0_init_50 : decode cX0_init 50 = .ok (.bipush 8, 2) := by decide +kernel
theorem dX0_init_52 : decode cX0_init 52 = .ok (.anewarray 18, 3) := by decide +kernel
theorem dX0_init_55 : decode cX0_init 55 = .ok (.putfield 20, 3) := by decide +kernel
theorem dX0_init_58 : decode cX0_init 58 = .ok (.iconst 0, 1) := by decide +kernel
theorem dX0_init_59 : decode cX0_init 59 = .ok (.istore_n 1, 1) := by decide +kernel
theorem dX0_init_60 : decode cX0_init 60 = .ok (.iload_n 1, 1) := by decide +kernel
theorem dX0_init_61 : decode cX0_init 61 = .ok (.bipush 8, 2) := by decide +kernel
theorem dX0_init_63 : decode cX0_init 63 = .ok (.if_icmp .ge 22, 3) := by decide +kernel
theorem dX0_init_66 : decode cX0_init 66 = .ok (.aload_n 0, 1) := by decide +kernel
theorem dX0_init_67 : decode cX0_init 67 = .ok (.getfield 20, 3) := by decide +kernel
theorem dX0_init_70 : decode cX0_init 70 = .ok (.iload_n 1, 1) := by decide +kernel
theorem dX0_init_71 : decode cX0_init 71 = .ok (.new 18, 3) := by decide +kernel
theorem dX0_init_74 : decode cX0_init 74 = .ok (.dup, 1) := by decide +kernel
theorem dX0_init_75 : decode cX0_init 75 = .ok (.invokespecial 24, 3) := by decide +kernel
theorem dX0_init_78 : decode cX0_init 78 = .ok (.aastore, 1) := by decide +kernel
theorem dX0_init_79 : decode cX0_init 79 = .ok (.iinc 1 1, 3) := by decide +kernel
theorem dX0_init_82 : decode cX0_init 82 = .ok (.goto (-22), 3) := by decide +kernel
theorem dX0_init_85 : decode cX0_init 85 = .ok (.aload_n 0, 1) := by decide +kernel
theorem dX0_init_86 : decode cX0_init 86 = .ok (.iconst 1, 1) := by decide +kernel
theorem dX0_init_87 : decode cX0_init 87 = .ok (.putfield 25, 3) := by decide +kernel
theorem dX0_init_90 : decode cX0_init 90 = .ok (.aload_n 0, 1) := by decide +kernel
theorem dX0_init_91 : decode cX0_init 91 = .ok (.bipush 10, 2) := by decide +kernel
theorem dX0_init_93 : decode cX0_init 93 = .ok (.newarray .int, 2) := by decide +kernel
theorem dX0_init_95 : decode cX0_init 95 = .ok (.putfield 29, 3) := by decide +kernel
theorem dX0_init_98 : decode cX0_init 98 = .ok (.aload_n 0, 1) := by decide +kernel
theorem dX0_init_99 : decode cX0_init 99 = .ok (.getfield 29, 3) := by decide +kernel
theorem dX0_init_102 : decode cX0_init 102 = .ok (.iconst (-1), 1) := by decide +kernel
theorem dX0_init_103 : decode cX0_init 103 = .ok (.invokestatic 32, 3) := by decide +kernel
theorem dX0_init_106 : decode cX0_init 106 = .ok (.return_, 1) := by decide +kernel
theorem dX0_takeAll_0 : decode cX0_takeAll 0 = .ok (.aload_n 1, 1) := by decide +kernel
theorem dX0_takeAll_1 : decode cX0_takeAll 1 = .ok (.getfield 9, 3) := by decide +kernel
theorem dX0_takeAll_4 : decode cX0_takeAll 4 = .ok (.iconst 0, 1) := by decide +kernel
theorem dX0_takeAll_5 : decode cX0_takeAll 5 = .ok (.aload_n 0, 1) := by decide +kernel
theorem dX0_takeAll_6 : decode cX0_takeAll 6 = .ok (.getfield 9, 3) := by decide +kernel
theorem dX0_takeAll_9 : decode cX0_takeAll 9 = .ok (.iconst 0, 1) := by decide +kernel
theorem dX0_takeAll_10 : decode cX0_takeAll 10 = .ok (.iconst 4, 1) := by decide +kernel
theorem dX0_takeAll_11 : decode cX0_takeAll 11 = .ok (.invokestatic 38, 3) := by decide +kernel
theorem dX0_takeAll_14 : decode cX0_takeAll 14 = .ok (.aload_n 1, 1) := by decide +kernel
theorem dX0_takeAll_15 : decode cX0_takeAll 15 = .ok (.getfield 15, 3) := by decide +kernel
theorem dX0_takeAll_18 : decode cX0_takeAll 18 = .ok (.iconst 0, 1) := by decide +kernel
theorem dX0_takeAll_19 : decode cX0_takeAll 19 = .ok (.aload_n 0, 1) := by decide +kernel
theorem dX0_takeAll_20 : decode cX0_takeAll 20 = .ok (.getfield 15, 3) := by decide +kernel
theorem dX0_takeAll_23 : decode cX0_takeAll 23 = .ok (.iconst 0, 1) := by decide +kernel
theorem dX0_takeAll_24 : decode cX0_takeAll 24 = .ok (.bipush 6, 2) := by decide +kernel
theorem dX0_takeAll_26 : decode cX0_takeAll 26 = .ok (.invokestatic 38, 3) := by decide +kernel
theorem dX0_takeAll_29 : decode cX0_takeAll 29 = .ok (.aload_n 1, 1) := by decide +kernel
theorem dX0_takeAll_30 : decode cX0_takeAll 30 = .ok (.getfield 29, 3) := by decide +kernel
theorem dX0_takeAll_33 : decode cX0_takeAll 33 = .ok (.iconst 0, 1) := by decide +kernel
theorem dX0_takeAll_34 : decode cX0_takeAll 34 = .ok (.aload_n 0, 1) := by decide +kernel
theorem dX0_takeAll_35 : decode cX0_takeAll 35 = .ok (.getfield 29, 3) := by decide +kernel
theorem dX0_takeAll_38 : decode cX0_takeAll 38 = .ok (.iconst 0, 1) := by decide +kernel
theorem dX0_takeAll_39 : decode cX0_takeAll 39 = .ok (.bipush 10, 2) := by decide +kernel
theorem dX0_takeAll_41 : decode cX0_takeAll 41 = .ok (.invokestatic 38, 3) := by decide +kernel
theorem dX0_takeAll_44 : decode cX0_takeAll 44 = .ok (.aload_n 0, 1) := by decide +kernel
theorem dX0_takeAll_45 : decode cX0_takeAll 45 = .ok (.aload_n 1, 1) := by decide +kernel
theorem dX0_takeAll_46 : decode cX0_takeAll 46 = .ok (.getfield 44, 3) := by decide +kernel
theorem dX0_takeAll_49 : decode cX0_takeAll 49 = .ok (.putfield 44, 3) := by decide +kernel
theorem dX0_takeAll_52 : decode cX0_takeAll 52 = .ok (.iconst 0, 1) := by decide +kernel
theorem dX0_takeAll_53 : decode cX0_takeAll 53 = .ok (.istore_n 2, 1) := by decide +kernel
theorem dX0_takeAll_54 : decode cX0_takeAll 54 = .ok (.iload_n 2, 1) := by decide +kernel
theorem dX0_takeAll_55 : decode cX0_takeAll 55 = .ok (.aload_n 0, 1) := by decide +kernel
theorem dX0_takeAll_56 : decode cX0_takeAll 56 = .ok (.getfield 44, 3) := by decide +kernel
theorem dX0_takeAll_59 : decode cX0_takeAll 59 = .ok (.if_icmp .ge 24, 3) := by decide +kernel
theorem dX0_takeAll_62 : decode cX0_takeAll 62 = .ok (.aload_n 0, 1) := by decide +kernel
theorem dX0_takeAll_63 : decode cX0_takeAll 63 = .ok (.getfield 20, 3) := by decide +kernel
theorem dX0_takeAll_66 : decode cX0_takeAll 66 = .ok (.iload_n 2, 1) := by decide +kernel
theorem dX0_takeAll_67 : decode cX0_takeAll 67 = .ok (.aaload, 1) := by decide +kernel
theorem dX0_takeAll_68 : decode cX0_takeAll 68 = .ok (.aload_n 1, 1) := by decide +kernel
theorem dX0_takeAll_69 : decode cX0_takeAll 69 = .ok (.getfield 20, 3) := by decide +kernel
theorem dX0_takeAll_72 : decode cX0_takeAll 72 = .ok (.iload_n 2, 1) := by decide +kernel
theorem dX0_takeAll_73 : decode cX0_takeAll 73 = .ok (.aaload, 1) := by decide +kernel
theorem dX0_takeAll_74 : decode cX0_takeAll 74 = .ok (.invokevirtual 47, 3) := by decide +kernel
theorem dX0_takeAll_77 : decode cX0_takeAll 77 = .ok (.iinc 2 1, 3) := by decide +kernel
theorem dX0_takeAll_80 : decode cX0_takeAll 80 = .ok (.goto (-26), 3) := by decide +kernel
theorem dX0_takeAll_83 : decode cX0_takeAll 83 = .ok (.aload_n 0, 1) := by decide +kernel
theorem dX0_takeAll_84 : decode cX0_takeAll 84 = .ok (.aload_n 1, 1) := by decide +kernel
theorem dX0_takeAll_85 : decode cX0_takeAll 85 = .ok (.getfield 51, 3) := by decide +kernel
theorem dX0_takeAll_88 : decode cX0_takeAll 88 = .ok (.putfield 51, 3) := by decide +kernel
theorem dX0_takeAll_91 : decode cX0_takeAll 91 = .ok (.aload_n 0, 1) := by decide +kernel
theorem dX0_takeAll_92 : decode cX0_takeAll 92 = .ok (.aload_n 1, 1) := by decide +kernel
theorem dX0_takeAll_93 : decode cX0_takeAll 93 = .ok (.getfield 25, 3) := by decide +kernel
theorem dX0_takeAll_96 : decode cX0_takeAll 96 = .ok (.putfield 25, 3) := by decide +kernel
theorem dX0_takeAll_99 : decode cX0_takeAll 99 = .ok (.return_, 1) := by decide +kernel
theorem dX0_has_0 : decode cX0_has 0 = .ok (.iload_n 1, 1) := by decide +kernel
theorem dX0_has_1 : decode cX0_has 1 = .ok (.iconst 0, 1) := by decide +kernel
theorem dX0_has_2 : decode cX0_has 2 = .ok (.aload_n 0, 1) := by decide +kernel
theorem dX0_has_3 : decode cX0_has 3 = .ok (.getfield 44, 3) := by decide +kernel
theorem dX0_has_6 : decode cX0_has 6 = .ok (.iconst 1, 1) := by decide +kernel
theorem dX0_has_7 : decode cX0_has 7 = .ok (.isub, 1) := by decide +kernel
theorem dX0_has_8 : decode cX0_has 8 = .ok (.invokestatic 54, 3) := by decide +kernel
theorem dX0_has_11 : decode cX0_has 11 = .ok (.ireturn, 1) := by decide +kernel
theorem dX0_welcome_0 : decode cX0_welcome 0 = .ok (.aload_n 0, 1) := by decide +kernel
theorem dX0_welcome_1 : decode cX0_welcome 1 = .ok (.getfield 44, 3) := by decide +kernel
theorem dX0_welcome_4 : decode cX0_welcome 4 = .ok (.bipush 8, 2) := by decide +kernel
theorem dX0_welcome_6 : decode cX0_welcome 6 = .ok (.if_icmp .lt 5, 3) := by decide +kernel
theorem dX0_welcome_9 : decode cX0_welcome 9 = .ok (.iconst (-1), 1) := by decide +kernel
theorem dX0_welcome_10 : decode cX0_welcome 10 = .ok (.ireturn, 1) := by decide +kernel
theorem dX0_welcome_11 : decode cX0_welcome 11 = .ok (.aload_n 0, 1) := by decide +kernel
theorem dX0_welcome_12 : decode cX0_welcome 12 = .ok (.getfield 44, 3) := by decide +kernel
theorem dX0_welcome_15 : decode cX0_welcome 15 = .ok (.istore_n 2, 1) := by decide +kernel
theorem dX0_welcome_16 : decode cX0_welcome 16 = .ok (.aload_n 0, 1) := by decide +kernel
theorem dX0_welcome_17 : decode cX0_welcome 17 = .ok (.getfield 20, 3) := by decide +kernel
theorem dX0_welcome_20 : decode cX0_welcome 20 = .ok (.iload_n 2, 1) := by decide +kernel
theorem dX0_welcome_21 : decode cX0_welcome 21 = .ok (.aaload, 1) := by decide +kernel
theorem dX0_welcome_22 : decode cX0_welcome 22 = .ok (.iload_n 1, 1) := by decide +kernel
theorem dX0_welcome_23 : decode cX0_welcome 23 = .ok (.invokevirtual 58, 3) := by decide +kernel
theorem dX0_welcome_26 : decode cX0_welcome 26 = .ok (.aload_n 0, 1) := by decide +kernel
theorem dX0_welcome_27 : decode cX0_welcome 27 = .ok (.dup, 1) := by decide +kernel
theorem dX0_welcome_28 : decode cX0_welcome 28 = .ok (.getfield 44, 3) := by decide +kernel
theorem dX0_welcome_31 : decode cX0_welcome 31 = .ok (.iconst 1, 1) := by decide +kernel
theorem dX0_welcome_32 : decode cX0_welcome 32 = .ok (.iadd, 1) := by decide +kernel
theorem dX0_welcome_33 : decode cX0_welcome 33 = .ok (.putfield 44, 3) := by decide +kernel
theorem dX0_welcome_36 : decode cX0_welcome 36 = .ok (.iload_n 2, 1) := by decide +kernel
theorem dX0_welcome_37 : decode cX0_welcome 37 = .ok (.ireturn, 1) := by decide +kernel
theorem dX0_factFits_0 : decode cX0_factFits 0 = .ok (.iload_n 2, 1) := by decide +kernel
theorem dX0_factFits_1 : decode cX0_factFits 1 = .ok (.tableswitch 84 0 4 #[35, 43, 51, 75, 75], 35) := by decide +kernel
theorem dX0_factFits_36 : decode cX0_factFits 36 = .ok (.iload_n 3, 1) := by decide +kernel
theorem dX0_factFits_37 : decode cX0_factFits 37 = .ok (.iconst 0, 1) := by decide +kernel
theorem dX0_factFits_38 : decode cX0_factFits 38 = .ok (.bipush 6, 2) := by decide +kernel
theorem dX0_factFits_40 : decode cX0_factFits 40 = .ok (.invokestatic 54, 3) := by decide +kernel
theorem dX0_factFits_43 : decode cX0_factFits 43 = .ok (.ireturn, 1) := by decide +kernel
theorem dX0_factFits_44 : decode cX0_factFits 44 = .ok (.iload_n 3, 1) := by decide +kernel
theorem dX0_factFits_45 : decode cX0_factFits 45 = .ok (.iconst 0, 1) := by decide +kernel
theorem dX0_factFits_46 : decode cX0_factFits 46 = .ok (.bipush 99, 2) := by decide +kernel
theorem dX0_factFits_48 : decode cX0_factFits 48 = .ok (.invokestatic 54, 3) := by decide +kernel
theorem dX0_factFits_51 : decode cX0_factFits 51 = .ok (.ireturn, 1) := by decide +kernel
theorem dX0_factFits_52 : decode cX0_factFits 52 = .ok (.iload_n 3, 1) := by decide +kernel
theorem dX0_factFits_53 : decode cX0_factFits 53 = .ok (.iconst (-1), 1) := by decide +kernel
theorem dX0_factFits_54 : decode cX0_factFits 54 = .ok (.if_icmp .eq 16, 3) := by decide +kernel
theorem dX0_factFits_57 : decode cX0_factFits 57 = .ok (.aload_n 0, 1) := by decide +kernel
theorem dX0_factFits_58 : decode cX0_factFits 58 = .ok (.iload_n 3, 1) := by decide +kernel
theorem dX0_factFits_59 : decode cX0_factFits 59 = .ok (.invokevirtual 62, 3) := by decide +kernel
theorem dX0_factFits_62 : decode cX0_factFits 62 = .ok (.ifCond .eq 12, 3) := by decide +kernel
theorem dX0_factFits_65 : decode cX0_factFits 65 = .ok (.iload_n 3, 1) := by decide +kernel
theorem dX0_factFits_66 : decode cX0_factFits 66 = .ok (.iload_n 1, 1) := by decide +kernel
theorem dX0_factFits_67 : decode cX0_factFits 67 = .ok (.if_icmp .eq 7, 3) := by decide +kernel
theorem dX0_factFits_70 : decode cX0_factFits 70 = .ok (.iconst 1, 1) := by decide +kernel
theorem dX0_factFits_71 : decode cX0_factFits 71 = .ok (.goto 4, 3) := by decide +kernel
theorem dX0_factFits_74 : decode cX0_factFits 74 = .ok (.iconst 0, 1) := by decide +kernel
theorem dX0_factFits_75 : decode cX0_factFits 75 = .ok (.ireturn, 1) := by decide +kernel
theorem dX0_factFits_76 : decode cX0_factFits 76 = .ok (.iload_n 3, 1) := by decide +kernel
theorem dX0_factFits_77 : decode cX0_factFits 77 = .ok (.iconst 0, 1) := by decide +kernel
theorem dX0_factFits_78 : decode cX0_factFits 78 = .ok (.sipush 9999, 3) := by decide +kernel
theorem dX0_factFits_81 : decode cX0_factFits 81 = .ok (.invokestatic 54, 3) := by decide +kernel
theorem dX0_factFits_84 : decode cX0_factFits 84 = .ok (.ireturn, 1) := by decide +kernel
theorem dX0_factFits_85 : decode cX0_factFits 85 = .ok (.iconst 0, 1) := by decide +kernel
theorem dX0_factFits_86 : decode cX0_factFits 86 = .ok (.ireturn, 1) := by decide +kernel
theorem dX0_draw_0 : decode cX0_draw 0 = .ok (.aload_n 0, 1) := by decide +kernel
theorem dX0_draw_1 : decode cX0_draw 1 = .ok (.aload_n 0, 1) := by decide +kernel
theorem dX0_draw_2 : decode cX0_draw 2 = .ok (.getfield 25, 3) := by decide +kernel
theorem dX0_draw_5 : decode cX0_draw 5 = .ok (.ldc 66, 2) := by decide +kernel
theorem dX0_draw_7 : decode cX0_draw 7 = .ok (.imul, 1) := by decide +kernel
theorem dX0_draw_8 : decode cX0_draw 8 = .ok (.sipush 12345, 3) := by decide +kernel
theorem dX0_draw_11 : decode cX0_draw 11 = .ok (.iadd, 1) := by decide +kernel
theorem dX0_draw_12 : decode cX0_draw 12 = .ok (.putfield 25, 3) := by decide +kernel
theorem dX0_draw_15 : decode cX0_draw 15 = .ok (.aload_n 0, 1) := by decide +kernel
theorem dX0_draw_16 : decode cX0_draw 16 = .ok (.getfield 25, 3) := by decide +kernel
theorem dX0_draw_19 : decode cX0_draw 19 = .ok (.bipush 8, 2) := by decide +kernel
theorem dX0_draw_21 : decode cX0_draw 21 = .ok (.iushr, 1) := by decide +kernel
theorem dX0_draw_22 : decode cX0_draw 22 = .ok (.ireturn, 1) := by decide +kernel
theorem dX0_pass_0 : decode cX0_pass 0 = .ok (.iconst 0, 1) := by decide +kernel
theorem dX0_pass_1 : decode cX0_pass 1 = .ok (.istore_n 2, 1) := by decide +kernel
theorem dX0_pass_2 : decode cX0_pass 2 = .ok (.iload_n 2, 1) := by decide +kernel
theorem dX0_pass_3 : decode cX0_pass 3 = .ok (.iload_n 1, 1) := by decide +kernel
theorem dX0_pass_4 : decode cX0_pass 4 = .ok (.if_icmp .ge 13, 3) := by decide +kernel
theorem dX0_pass_7 : decode cX0_pass 7 = .ok (.aload_n 0, 1) := by decide +kernel
theorem dX0_pass_8 : decode cX0_pass 8 = .ok (.invokevirtual 67, 3) := by decide +kernel
theorem dX0_pass_11 : decode cX0_pass 11 = .ok (.iinc 2 1, 3) := by decide +kernel
theorem dX0_pass_14 : decode cX0_pass 14 = .ok (.goto (-12), 3) := by decide +kernel
theorem dX0_pass_17 : decode cX0_pass 17 = .ok (.return_, 1) := by decide +kernel
theorem dX0_passSunday_0 : decode cX0_passSunday 0 = .ok (.aload_n 0, 1) := by decide +kernel
theorem dX0_passSunday_1 : decode cX0_passSunday 1 = .ok (.invokevirtual 70, 3) := by decide +kernel
theorem dX0_passSunday_4 : decode cX0_passSunday 4 = .ok (.aload_n 0, 1) := by decide +kernel
theorem dX0_passSunday_5 : decode cX0_passSunday 5 = .ok (.getfield 9, 3) := by decide +kernel
theorem dX0_passSunday_8 : decode cX0_passSunday 8 = .ok (.iconst 3, 1) := by decide +kernel
theorem dX0_passSunday_9 : decode cX0_passSunday 9 = .ok (.iaload, 1) := by decide +kernel
theorem dX0_passSunday_10 : decode cX0_passSunday 10 = .ok (.istore_n 1, 1) := by decide +kernel
theorem dX0_passSunday_11 : decode cX0_passSunday 11 = .ok (.aload_n 0, 1) := by decide +kernel
theorem dX0_passSunday_12 : decode cX0_passSunday 12 = .ok (.getfield 9, 3) := by decide +kernel
theorem dX0_passSunday_15 : decode cX0_passSunday 15 = .ok (.iconst 1, 1) := by decide +kernel
theorem dX0_passSunday_16 : decode cX0_passSunday 16 = .ok (.iaload, 1) := by decide +kernel
theorem dX0_passSunday_17 : decode cX0_passSunday 17 = .ok (.istore_n 2, 1) := by decide +kernel
theorem dX0_passSunday_18 : decode cX0_passSunday 18 = .ok (.aload_n 0, 1) := by decide +kernel
theorem dX0_passSunday_19 : decode cX0_passSunday 19 = .ok (.getfield 73, 3) := by decide +kernel
theorem dX0_passSunday_22 : decode cX0_passSunday 22 = .ok (.invokestatic 76, 3) := by decide +kernel
theorem dX0_passSunday_25 : decode cX0_passSunday 25 = .ok (.istore_n 3, 1) := by decide +kernel
theorem dX0_passSunday_26 : decode cX0_passSunday 26 = .ok (.iconst 0, 1) := by decide +kernel
theorem dX0_passSunday_27 : decode cX0_passSunday 27 = .ok (.istore 4, 2) := by decide +kernel
theorem dX0_passSunday_29 : decode cX0_passSunday 29 = .ok (.iload 4, 2) := by decide +kernel
theorem dX0_passSunday_31 : decode cX0_passSunday 31 = .ok (.aload_n 0, 1) := by decide +kernel
theorem dX0_passSunday_32 : decode cX0_passSunday 32 = .ok (.getfield 44, 3) := by decide +kernel
theorem dX0_passSunday_35 : decode cX0_passSunday 35 = .ok (.if_icmp .ge 98, 3) := by decide +kernel
theorem dX0_passSunday_38 : decode cX0_passSunday 38 = .ok (.aload_n 0, 1) := by decide +kernel
theorem dX0_passSunday_39 : decode cX0_passSunday 39 = .ok (.getfield 20, 3) := by decide +kernel
theorem dX0_passSunday_42 : decode cX0_passSunday 42 = .ok (.iload 4, 2) := by decide +kernel
theorem dX0_passSunday_44 : decode cX0_passSunday 44 = .ok (.aaload, 1) := by decide +kernel
theorem dX0_passSunday_45 : decode cX0_passSunday 45 = .ok (.astore 5, 2) := by decide +kernel
theorem dX0_passSunday_47 : decode cX0_passSunday 47 = .ok (.aload_n 0, 1) := by decide +kernel
theorem dX0_passSunday_48 : decode cX0_passSunday 48 = .ok (.getfield 73, 3) := by decide +kernel
theorem dX0_passSunday_51 : decode cX0_passSunday 51 = .ok (.iload 4, 2) := by decide +kernel
theorem dX0_passSunday_53 : decode cX0_passSunday 53 = .ok (.invokestatic 82, 3) := by decide +kernel
theorem dX0_passSunday_56 : decode cX0_passSunday 56 = .ok (.ifCond .eq 24, 3) := by decide +kernel
theorem dX0_passSunday_59 : decode cX0_passSunday 59 = .ok (.aload 5, 2) := by decide +kernel
theorem dX0_passSunday_61 : decode cX0_passSunday 61 = .ok (.iload_n 1, 1) := by decide +kernel
theorem dX0_passSunday_62 : decode cX0_passSunday 62 = .ok (.iload_n 2, 1) := by decide +kernel
theorem dX0_passSunday_63 : decode cX0_passSunday 63 = .ok (.ifCond .le 7, 3) := by decide +kernel
theorem dX0_passSunday_66 : decode cX0_passSunday 66 = .ok (.iconst 1, 1) := by decide +kernel
theorem dX0_passSunday_67 : decode cX0_passSunday 67 = .ok (.goto 4, 3) := by decide +kernel
theorem dX0_passSunday_70 : decode cX0_passSunday 70 = .ok (.iconst 0, 1) := by decide +kernel
theorem dX0_passSunday_71 : decode cX0_passSunday 71 = .ok (.invokevirtual 86, 3) := by decide +kernel
theorem dX0_passSunday_74 : decode cX0_passSunday 74 = .ok (.iinc 2 (-1), 3) := by decide +kernel
theorem dX0_passSunday_77 : decode cX0_passSunday 77 = .ok (.goto 50, 3) := by decide +kernel
theorem dX0_passSunday_80 : decode cX0_passSunday 80 = .ok (.aload_n 0, 1) := by decide +kernel
theorem dX0_passSunday_81 : decode cX0_passSunday 81 = .ok (.getfield 90, 3) := by decide +kernel
theorem dX0_passSunday_84 : decode cX0_passSunday 84 = .ok (.iload 4, 2) := by decide +kernel
theorem dX0_passSunday_86 : decode cX0_passSunday 86 = .ok (.invokestatic 82, 3) := by decide +kernel
theorem dX0_passSunday_89 : decode cX0_passSunday 89 = .ok (.ifCond .eq 12, 3) := by decide +kernel
theorem dX0_passSunday_92 : decode cX0_passSunday 92 = .ok (.aload 5, 2) := by decide +kernel
theorem dX0_passSunday_94 : decode cX0_passSunday 94 = .ok (.iload_n 1, 1) := by decide +kernel
theorem dX0_passSunday_95 : decode cX0_passSunday 95 = .ok (.invokevirtual 93, 3) := by decide +kernel
theorem dX0_passSunday_98 : decode cX0_passSunday 98 = .ok (.goto 29, 3) := by decide +kernel
theorem dX0_passSunday_101 : decode cX0_passSunday 101 = .ok (.aload_n 0, 1) := by decide +kernel
theorem dX0_passSunday_102 : decode cX0_passSunday 102 = .ok (.getfield 96, 3) := by decide +kernel
theorem dX0_passSunday_105 : decode cX0_passSunday 105 = .ok (.iload 4, 2) := by decide +kernel
theorem dX0_passSunday_107 : decode cX0_passSunday 107 = .ok (.invokestatic 82, 3) := by decide +kernel
theorem dX0_passSunday_110 : decode cX0_passSunday 110 = .ok (.ifCond .eq 11, 3) := by decide +kernel
theorem dX0_passSunday_113 : decode cX0_passSunday 113 = .ok (.aload 5, 2) := by decide +kernel
theorem dX0_passSunday_115 : decode cX0_passSunday 115 = .ok (.invokevirtual 99, 3) := by decide +kernel
theorem dX0_passSunday_118 : decode cX0_passSunday 118 = .ok (.goto 9, 3) := by decide +kernel
theorem dX0_passSunday_121 : decode cX0_passSunday 121 = .ok (.aload 5, 2) := by decide +kernel
theorem dX0_passSunday_123 : decode cX0_passSunday 123 = .ok (.iload_n 3, 1) := by decide +kernel
theorem dX0_passSunday_124 : decode cX0_passSunday 124 = .ok (.invokevirtual 102, 3) := by decide +kernel
theorem dX0_passSunday_127 : decode cX0_passSunday 127 = .ok (.iinc 4 1, 3) := by decide +kernel
theorem dX0_passSunday_130 : decode cX0_passSunday 130 = .ok (.goto (-101), 3) := by decide +kernel
theorem dX0_passSunday_133 : decode cX0_passSunday 133 = .ok (.aload_n 0, 1) := by decide +kernel
theorem dX0_passSunday_134 : decode cX0_passSunday 134 = .ok (.ldc 105, 2) := by decide +kernel
theorem dX0_passSunday_136 : decode cX0_passSunday 136 = .ok (.aload_n 0, 1) := by decide +kernel
theorem dX0_passSunday_137 : decode cX0_passSunday 137 = .ok (.getfield 51, 3) := by decide +kernel
theorem dX0_passSunday_140 : decode cX0_passSunday 140 = .ok (.iconst 1, 1) := by decide +kernel
theorem dX0_passSunday_141 : decode cX0_passSunday 141 = .ok (.iadd, 1) := by decide +kernel
theorem dX0_passSunday_142 : decode cX0_passSunday 142 = .ok (.invokestatic 106, 3) := by decide +kernel
theorem dX0_passSunday_145 : decode cX0_passSunday 145 = .ok (.putfield 51, 3) := by decide +kernel
theorem dX0_passSunday_148 : decode cX0_passSunday 148 = .ok (.return_, 1) := by decide +kernel
theorem dX0_decide_0 : decode cX0_decide 0 = .ok (.aload_n 0, 1) := by decide +kernel
theorem dX0_decide_1 : decode cX0_decide 1 = .ok (.aload_n 0, 1) := by decide +kernel
theorem dX0_decide_2 : decode cX0_decide 2 = .ok (.aload_n 0, 1) := by decide +kernel
theorem dX0_decide_3 : decode cX0_decide 3 = .ok (.getfield 15, 3) := by decide +kernel
theorem dX0_decide_6 : decode cX0_decide 6 = .ok (.aload_n 0, 1) := by decide +kernel
theorem dX0_decide_7 : decode cX0_decide 7 = .ok (.getfield 51, 3) := by decide +kernel
theorem dX0_decide_10 : decode cX0_decide 10 = .ok (.bipush 6, 2) := by decide +kernel
theorem dX0_decide_12 : decode cX0_decide 12 = .ok (.irem, 1) := by decide +kernel
theorem dX0_decide_13 : decode cX0_decide 13 = .ok (.iaload, 1) := by decide +kernel
theorem dX0_decide_14 : decode cX0_decide 14 = .ok (.invokevirtual 112, 3) := by decide +kernel
theorem dX0_decide_17 : decode cX0_decide 17 = .ok (.putfield 73, 3) := by decide +kernel
theorem dX0_decide_20 : decode cX0_decide 20 = .ok (.aload_n 0, 1) := by decide +kernel
theorem dX0_decide_21 : decode cX0_decide 21 = .ok (.aload_n 0, 1) := by decide +kernel
theorem dX0_decide_22 : decode cX0_decide 22 = .ok (.invokevirtual 115, 3) := by decide +kernel
theorem dX0_decide_25 : decode cX0_decide 25 = .ok (.putfield 90, 3) := by decide +kernel
theorem dX0_decide_28 : decode cX0_decide 28 = .ok (.aload_n 0, 1) := by decide +kernel
theorem dX0_decide_29 : decode cX0_decide 29 = .ok (.aload_n 0, 1) := by decide +kernel
theorem dX0_decide_30 : decode cX0_decide 30 = .ok (.aload_n 0, 1) := by decide +kernel
theorem dX0_decide_31 : decode cX0_decide 31 = .ok (.getfield 73, 3) := by decide +kernel
theorem dX0_decide_34 : decode cX0_decide 34 = .ok (.aload_n 0, 1) := by decide +kernel
theorem dX0_decide_35 : decode cX0_decide 35 = .ok (.getfield 90, 3) := by decide +kernel
theorem dX0_decide_38 : decode cX0_decide 38 = .ok (.ior, 1) := by decide +kernel
theorem dX0_decide_39 : decode cX0_decide 39 = .ok (.invokevirtual 119, 3) := by decide +kernel
theorem dX0_decide_42 : decode cX0_decide 42 = .ok (.putfield 96, 3) := by decide +kernel
theorem dX0_decide_45 : decode cX0_decide 45 = .ok (.return_, 1) := by decide +kernel
theorem dX0_seated_0 : decode cX0_seated 0 = .ok (.aload_n 0, 1) := by decide +kernel
theorem dX0_seated_1 : decode cX0_seated 1 = .ok (.getfield 9, 3) := by decide +kernel
theorem dX0_seated_4 : decode cX0_seated 4 = .ok (.iconst 0, 1) := by decide +kernel
theorem dX0_seated_5 : decode cX0_seated 5 = .ok (.iaload, 1) := by decide +kernel
theorem dX0_seated_6 : decode cX0_seated 6 = .ok (.istore_n 2, 1) := by decide +kernel
theorem dX0_seated_7 : decode cX0_seated 7 = .ok (.iconst 0, 1) := by decide +kernel
theorem dX0_seated_8 : decode cX0_seated 8 = .ok (.istore_n 3, 1) := by decide +kernel
theorem dX0_seated_9 : decode cX0_seated 9 = .ok (.iconst 0, 1) := by decide +kernel
theorem dX0_seated_10 : decode cX0_seated 10 = .ok (.istore 4, 2) := by decide +kernel
theorem dX0_seated_12 : decode cX0_seated 12 = .ok (.iload 4, 2) := by decide +kernel
theorem dX0_seated_14 : decode cX0_seated 14 = .ok (.aload_n 0, 1) := by decide +kernel
theorem dX0_seated_15 : decode cX0_seated 15 = .ok (.getfield 44, 3) := by decide +kernel
theorem dX0_seated_18 : decode cX0_seated 18 = .ok (.if_icmp .ge 48, 3) := by decide +kernel
theorem dX0_seated_21 : decode cX0_seated 21 = .ok (.aload_n 0, 1) := by decide +kernel
theorem dX0_seated_22 : decode cX0_seated 22 = .ok (.getfield 20, 3) := by decide +kernel
theorem dX0_seated_25 : decode cX0_seated 25 = .ok (.iload 4, 2) := by decide +kernel
theorem dX0_seated_27 : decode cX0_seated 27 = .ok (.aaload, 1) := by decide +kernel
theorem dX0_seated_28 : decode cX0_seated 28 = .ok (.invokevirtual 122, 3) := by decide +kernel
theorem dX0_seated_31 : decode cX0_seated 31 = .ok (.istore 5, 2) := by decide +kernel
theorem dX0_seated_33 : decode cX0_seated 33 = .ok (.iload_n 1, 1) := by decide +kernel
theorem dX0_seated_34 : decode cX0_seated 34 = .ok (.iload 4, 2) := by decide +kernel
theorem dX0_seated_36 : decode cX0_seated 36 = .ok (.invokestatic 82, 3) := by decide +kernel
theorem dX0_seated_39 : decode cX0_seated 39 = .ok (.ifCond .eq 21, 3) := by decide +kernel
theorem dX0_seated_42 : decode cX0_seated 42 = .ok (.iload 5, 2) := by decide +kernel
theorem dX0_seated_44 : decode cX0_seated 44 = .ok (.iload_n 2, 1) := by decide +kernel
theorem dX0_seated_45 : decode cX0_seated 45 = .ok (.if_icmp .gt 15, 3) := by decide +kernel
theorem dX0_seated_48 : decode cX0_seated 48 = .ok (.iload_n 2, 1) := by decide +kernel
theorem dX0_seated_49 : decode cX0_seated 49 = .ok (.iload 5, 2) := by decide +kernel
theorem dX0_seated_51 : decode cX0_seated 51 = .ok (.isub, 1) := by decide +kernel
theorem dX0_seated_52 : decode cX0_seated 52 = .ok (.istore_n 2, 1) := by decide +kernel
theorem dX0_seated_53 : decode cX0_seated 53 = .ok (.iload_n 3, 1) := by decide +kernel
theorem dX0_seated_54 : decode cX0_seated 54 = .ok (.iconst 1, 1) := by decide +kernel
theorem dX0_seated_55 : decode cX0_seated 55 = .ok (.iload 4, 2) := by decide +kernel
theorem dX0_seated_57 : decode cX0_seated 57 = .ok (.ishl, 1) := by decide +kernel
theorem dX0_seated_58 : decode cX0_seated 58 = .ok (.ior, 1) := by decide +kernel
theorem dX0_seated_59 : decode cX0_seated 59 = .ok (.istore_n 3, 1) := by decide +kernel
theorem dX0_seated_60 : decode cX0_seated 60 = .ok (.iinc 4 1, 3) := by decide +kernel
theorem dX0_seated_63 : decode cX0_seated 63 = .ok (.goto (-51), 3) := by decide +kernel
theorem dX0_seated_66 : decode cX0_seated 66 = .ok (.iload_n 3, 1) := by decide +kernel
theorem dX0_seated_67 : decode cX0_seated 67 = .ok (.ireturn, 1) := by decide +kernel
theorem dX0_sharers_0 : decode cX0_sharers 0 = .ok (.iconst 0, 1) := by decide +kernel
theorem dX0_sharers_1 : decode cX0_sharers 1 = .ok (.istore_n 1, 1) := by decide +kernel
theorem dX0_sharers_2 : decode cX0_sharers 2 = .ok (.iconst 0, 1) := by decide +kernel
theorem dX0_sharers_3 : decode cX0_sharers 3 = .ok (.istore_n 2, 1) := by decide +kernel
theorem dX0_sharers_4 : decode cX0_sharers 4 = .ok (.iload_n 2, 1) := by decide +kernel
theorem dX0_sharers_5 : decode cX0_sharers 5 = .ok (.aload_n 0, 1) := by decide +kernel
theorem dX0_sharers_6 : decode cX0_sharers 6 = .ok (.getfield 44, 3) := by decide +kernel
theorem dX0_sharers_9 : decode cX0_sharers 9 = .ok (.if_icmp .ge 54, 3) := by decide +kernel
theorem dX0_sharers_12 : decode cX0_sharers 12 = .ok (.aload_n 0, 1) := by decide +kernel
theorem dX0_sharers_13 : decode cX0_sharers 13 = .ok (.getfield 20, 3) := by decide +kernel
theorem dX0_sharers_16 : decode cX0_sharers 16 = .ok (.iload_n 2, 1) := by decide +kernel
theorem dX0_sharers_17 : decode cX0_sharers 17 = .ok (.aaload, 1) := by decide +kernel
theorem dX0_sharers_18 : decode cX0_sharers 18 = .ok (.astore_n 3, 1) := by decide +kernel
theorem dX0_sharers_19 : decode cX0_sharers 19 = .ok (.aload_n 0, 1) := by decide +kernel
theorem dX0_sharers_20 : decode cX0_sharers 20 = .ok (.getfield 73, 3) := by decide +kernel
theorem dX0_sharers_23 : decode cX0_sharers 23 = .ok (.iload_n 2, 1) := by decide +kernel
theorem dX0_sharers_24 : decode cX0_sharers 24 = .ok (.invokestatic 82, 3) := by decide +kernel
theorem dX0_sharers_27 : decode cX0_sharers 27 = .ok (.ifCond .ne 30, 3) := by decide +kernel
theorem dX0_sharers_30 : decode cX0_sharers 30 = .ok (.aload_n 0, 1) := by decide +kernel
theorem dX0_sharers_31 : decode cX0_sharers 31 = .ok (.getfield 73, 3) := by decide +kernel
theorem dX0_sharers_34 : decode cX0_sharers 34 = .ok (.aload_n 3, 1) := by decide +kernel
theorem dX0_sharers_35 : decode cX0_sharers 35 = .ok (.getfield 125, 3) := by decide +kernel
theorem dX0_sharers_38 : decode cX0_sharers 38 = .ok (.invokestatic 82, 3) := by decide +kernel
theorem dX0_sharers_41 : decode cX0_sharers 41 = .ok (.ifCond .eq 16, 3) := by decide +kernel
theorem dX0_sharers_44 : decode cX0_sharers 44 = .ok (.aload_n 3, 1) := by decide +kernel
theorem dX0_sharers_45 : decode cX0_sharers 45 = .ok (.invokevirtual 128, 3) := by decide +kernel
theorem dX0_sharers_48 : decode cX0_sharers 48 = .ok (.ifCond .eq 9, 3) := by decide +kernel
theorem dX0_sharers_51 : decode cX0_sharers 51 = .ok (.iload_n 1, 1) := by decide +kernel
theorem dX0_sharers_52 : decode cX0_sharers 52 = .ok (.iconst 1, 1) := by decide +kernel
theorem dX0_sharers_53 : decode cX0_sharers 53 = .ok (.iload_n 2, 1) := by decide +kernel
theorem dX0_sharers_54 : decode cX0_sharers 54 = .ok (.ishl, 1) := by decide +kernel
theorem dX0_sharers_55 : decode cX0_sharers 55 = .ok (.ior, 1) := by decide +kernel
theorem dX0_sharers_56 : decode cX0_sharers 56 = .ok (.istore_n 1, 1) := by decide +kernel
theorem dX0_sharers_57 : decode cX0_sharers 57 = .ok (.iinc 2 1, 3) := by decide +kernel
theorem dX0_sharers_60 : decode cX0_sharers 60 = .ok (.goto (-56), 3) := by decide +kernel
theorem dX0_sharers_63 : decode cX0_sharers 63 = .ok (.iload_n 1, 1) := by decide +kernel
theorem dX0_sharers_64 : decode cX0_sharers 64 = .ok (.ireturn, 1) := by decide +kernel
theorem dX0_volunteersTo_0 : decode cX0_volunteersTo 0 = .ok (.iconst 0, 1) := by decide +kernel
theorem dX0_volunteersTo_1 : decode cX0_volunteersTo 1 = .ok (.istore_n 2, 1) := by decide +kernel
theorem dX0_volunteersTo_2 : decode cX0_volunteersTo 2 = .ok (.iconst 0, 1) := by decide +kernel
theorem dX0_volunteersTo_3 : decode cX0_volunteersTo 3 = .ok (.istore_n 3, 1) := by decide +kernel
theorem dX0_volunteersTo_4 : decode cX0_volunteersTo 4 = .ok (.iload_n 3, 1) := by decide +kernel
theorem dX0_volunteersTo_5 : decode cX0_volunteersTo 5 = .ok (.aload_n 0, 1) := by decide +kernel
theorem dX0_volunteersTo_6 : decode cX0_volunteersTo 6 = .ok (.getfield 9, 3) := by decide +kernel
theorem dX0_volunteersTo_9 : decode cX0_volunteersTo 9 = .ok (.iconst 2, 1) := by decide +kernel
theorem dX0_volunteersTo_10 : decode cX0_volunteersTo 10 = .ok (.iaload, 1) := by decide +kernel
theorem dX0_volunteersTo_11 : decode cX0_volunteersTo 11 = .ok (.if_icmp .ge 34, 3) := by decide +kernel
theorem dX0_volunteersTo_14 : decode cX0_volunteersTo 14 = .ok (.aload_n 0, 1) := by decide +kernel
theorem dX0_volunteersTo_15 : decode cX0_volunteersTo 15 = .ok (.iload_n 1, 1) := by decide +kernel
theorem dX0_volunteersTo_16 : decode cX0_volunteersTo 16 = .ok (.iload_n 2, 1) := by decide +kernel
theorem dX0_volunteersTo_17 : decode cX0_volunteersTo 17 = .ok (.ior, 1) := by decide +kernel
theorem dX0_volunteersTo_18 : decode cX0_volunteersTo 18 = .ok (.invokevirtual 132, 3) := by decide +kernel
theorem dX0_volunteersTo_21 : decode cX0_volunteersTo 21 = .ok (.istore 4, 2) := by decide +kernel
theorem dX0_volunteersTo_23 : decode cX0_volunteersTo 23 = .ok (.iload 4, 2) := by decide +kernel
theorem dX0_volunteersTo_25 : decode cX0_volunteersTo 25 = .ok (.iconst (-1), 1) := by decide +kernel
theorem dX0_volunteersTo_26 : decode cX0_volunteersTo 26 = .ok (.if_icmp .ne 6, 3) := by decide +kernel
theorem dX0_volunteersTo_29 : decode cX0_volunteersTo 29 = .ok (.goto 16, 3) := by decide +kernel
theorem dX0_volunteersTo_32 : decode cX0_volunteersTo 32 = .ok (.iload_n 2, 1) := by decide +kernel
theorem dX0_volunteersTo_33 : decode cX0_volunteersTo 33 = .ok (.iconst 1, 1) := by decide +kernel
theorem dX0_volunteersTo_34 : decode cX0_volunteersTo 34 = .ok (.iload 4, 2) := by decide +kernel
theorem dX0_volunteersTo_36 : decode cX0_volunteersTo 36 = .ok (.ishl, 1) := by decide +kernel
theorem dX0_volunteersTo_37 : decode cX0_volunteersTo 37 = .ok (.ior, 1) := by decide +kernel
theorem dX0_volunteersTo_38 : decode cX0_volunteersTo 38 = .ok (.istore_n 2, 1) := by decide +kernel
theorem dX0_volunteersTo_39 : decode cX0_volunteersTo 39 = .ok (.iinc 3 1, 3) := by decide +kernel
theorem dX0_volunteersTo_42 : decode cX0_volunteersTo 42 = .ok (.goto (-38), 3) := by decide +kernel
theorem dX0_volunteersTo_45 : decode cX0_volunteersTo 45 = .ok (.iload_n 2, 1) := by decide +kernel
theorem dX0_volunteersTo_46 : decode cX0_volunteersTo 46 = .ok (.ireturn, 1) := by decide +kernel
theorem dX0_longestWaiting_0 : decode cX0_longestWaiting 0 = .ok (.iconst (-1), 1) := by decide +kernel
theorem dX0_longestWaiting_1 : decode cX0_longestWaiting 1 = .ok (.istore_n 2, 1) := by decide +kernel
theorem dX0_longestWaiting_2 : decode cX0_longestWaiting 2 = .ok (.iconst (-1), 1) := by decide +kernel
theorem dX0_longestWaiting_3 : decode cX0_longestWaiting 3 = .ok (.istore_n 3, 1) := by decide +kernel
theorem dX0_longestWaiting_4 : decode cX0_longestWaiting 4 = .ok (.iconst 0, 1) := by decide +kernel
theorem dX0_longestWaiting_5 : decode cX0_longestWaiting 5 = .ok (.istore 4, 2) := by decide +kernel
theorem dX0_longestWaiting_7 : decode cX0_longestWaiting 7 = .ok (.iload 4, 2) := by decide +kernel
theorem dX0_longestWaiting_9 : decode cX0_longestWaiting 9 = .ok (.aload_n 0, 1) := by decide +kernel
theorem dX0_longestWaiting_10 : decode cX0_longestWaiting 10 = .ok (.getfield 44, 3) := by decide +kernel
theorem dX0_longestWaiting_13 : decode cX0_longestWaiting 13 = .ok (.if_icmp .ge 46, 3) := by decide +kernel
theorem dX0_longestWaiting_16 : decode cX0_longestWaiting 16 = .ok (.iload_n 1, 1) := by decide +kernel
theorem dX0_longestWaiting_17 : decode cX0_longestWaiting 17 = .ok (.iload 4, 2) := by decide +kernel
theorem dX0_longestWaiting_19 : decode cX0_longestWaiting 19 = .ok (.ishr, 1) := by decide +kernel
theorem dX0_longestWaiting_20 : decode cX0_longestWaiting 20 = .ok (.iconst 1, 1) := by decide +kernel
theorem dX0_longestWaiting_21 : decode cX0_longestWaiting 21 = .ok (.iand, 1) := by decide +kernel
theorem dX0_longestWaiting_22 : decode cX0_longestWaiting 22 = .ok (.ifCond .ne 31, 3) := by decide +kernel
theorem dX0_longestWaiting_25 : decode cX0_longestWaiting 25 = .ok (.aload_n 0, 1) := by decide +kernel
theorem dX0_longestWaiting_26 : decode cX0_longestWaiting 26 = .ok (.getfield 20, 3) := by decide +kernel
theorem dX0_longestWaiting_29 : decode cX0_longestWaiting 29 = .ok (.iload 4, 2) := by decide +kernel
theorem dX0_longestWaiting_31 : decode cX0_longestWaiting 31 = .ok (.aaload, 1) := by decide +kernel
theorem dX0_longestWaiting_32 : decode cX0_longestWaiting 32 = .ok (.getfield 135, 3) := by decide +kernel
theorem dX0_longestWaiting_35 : decode cX0_longestWaiting 35 = .ok (.iload_n 3, 1) := by decide +kernel
theorem dX0_longestWaiting_36 : decode cX0_longestWaiting 36 = .ok (.if_icmp .le 17, 3) := by decide +kernel
theorem dX0_longestWaiting_39 : decode cX0_longestWaiting 39 = .ok (.aload_n 0, 1) := by decide +kernel
theorem dX0_longestWaiting_40 : decode cX0_longestWaiting 40 = .ok (.getfield 20, 3) := by decide +kernel
theorem dX0_longestWaiting_43 : decode cX0_longestWaiting 43 = .ok (.iload 4, 2) := by decide +kernel
theorem dX0_longestWaiting_45 : decode cX0_longestWaiting 45 = .ok (.aaload, 1) := by decide +kernel
theorem dX0_longestWaiting_46 : decode cX0_longestWaiting 46 = .ok (.getfield 135, 3) := by decide +kernel
theorem dX0_longestWaiting_49 : decode cX0_longestWaiting 49 = .ok (.istore_n 3, 1) := by decide +kernel
theorem dX0_longestWaiting_50 : decode cX0_longestWaiting 50 = .ok (.iload 4, 2) := by decide +kernel
theorem dX0_longestWaiting_52 : decode cX0_longestWaiting 52 = .ok (.istore_n 2, 1) := by decide +kernel
theorem dX0_longestWaiting_53 : decode cX0_longestWaiting 53 = .ok (.iinc 4 1, 3) := by decide +kernel
theorem dX0_longestWaiting_56 : decode cX0_longestWaiting 56 = .ok (.goto (-49), 3) := by decide +kernel
theorem dX0_longestWaiting_59 : decode cX0_longestWaiting 59 = .ok (.iload_n 2, 1) := by decide +kernel
theorem dX0_longestWaiting_60 : decode cX0_longestWaiting 60 = .ok (.ireturn, 1) := by decide +kernel
theorem dX0_keepAway_0 : decode cX0_keepAway 0 = .ok (.iconst 0, 1) := by decide +kernel
theorem dX0_keepAway_1 : decode cX0_keepAway 1 = .ok (.istore_n 2, 1) := by decide +kernel
theorem dX0_keepAway_2 : decode cX0_keepAway 2 = .ok (.iload_n 2, 1) := by decide +kernel
theorem dX0_keepAway_3 : decode cX0_keepAway 3 = .ok (.bipush 6, 2) := by decide +kernel
theorem dX0_keepAway_5 : decode cX0_keepAway 5 = .ok (.if_icmp .ge 21, 3) := by decide +kernel
theorem dX0_keepAway_8 : decode cX0_keepAway 8 = .ok (.aload_n 0, 1) := by decide +kernel
theorem dX0_keepAway_9 : decode cX0_keepAway 9 = .ok (.getfield 15, 3) := by decide +kernel
theorem dX0_keepAway_12 : decode cX0_keepAway 12 = .ok (.iload_n 2, 1) := by decide +kernel
theorem dX0_keepAway_13 : decode cX0_keepAway 13 = .ok (.dup2, 1) := by decide +kernel
theorem dX0_keepAway_14 : decode cX0_keepAway 14 = .ok (.iaload, 1) := by decide +kernel
theorem dX0_keepAway_15 : decode cX0_keepAway 15 = .ok (.iload_n 1, 1) := by decide +kernel
theorem dX0_keepAway_16 : decode cX0_keepAway 16 = .ok (.iconst (-1), 1) := by decide +kernel
theorem dX0_keepAway_17 : decode cX0_keepAway 17 = .ok (.ixor, 1) := by decide +kernel
theorem dX0_keepAway_18 : decode cX0_keepAway 18 = .ok (.iand, 1) := by decide +kernel
theorem dX0_keepAway_19 : decode cX0_keepAway 19 = .ok (.iastore, 1) := by decide +kernel
theorem dX0_keepAway_20 : decode cX0_keepAway 20 = .ok (.iinc 2 1, 3) := by decide +kernel
theorem dX0_keepAway_23 : decode cX0_keepAway 23 = .ok (.goto (-21), 3) := by decide +kernel
theorem dX0_keepAway_26 : decode cX0_keepAway 26 = .ok (.return_, 1) := by decide +kernel
theorem dX0_moods_0 : decode cX0_moods 0 = .ok (.iconst 0, 1) := by decide +kernel
theorem dX0_moods_1 : decode cX0_moods 1 = .ok (.istore_n 1, 1) := by decide +kernel
theorem dX0_moods_2 : decode cX0_moods 2 = .ok (.iconst 0, 1) := by decide +kernel
theorem dX0_moods_3 : decode cX0_moods 3 = .ok (.istore_n 2, 1) := by decide +kernel
theorem dX0_moods_4 : decode cX0_moods 4 = .ok (.iload_n 2, 1) := by decide +kernel
theorem dX0_moods_5 : decode cX0_moods 5 = .ok (.aload_n 0, 1) := by decide +kernel
theorem dX0_moods_6 : decode cX0_moods 6 = .ok (.getfield 44, 3) := by decide +kernel
theorem dX0_moods_9 : decode cX0_moods 9 = .ok (.if_icmp .ge 21, 3) := by decide +kernel
theorem dX0_moods_12 : decode cX0_moods 12 = .ok (.iload_n 1, 1) := by decide +kernel
theorem dX0_moods_13 : decode cX0_moods 13 = .ok (.aload_n 0, 1) := by decide +kernel
theorem dX0_moods_14 : decode cX0_moods 14 = .ok (.getfield 20, 3) := by decide +kernel
theorem dX0_moods_17 : decode cX0_moods 17 = .ok (.iload_n 2, 1) := by decide +kernel
theorem dX0_moods_18 : decode cX0_moods 18 = .ok (.aaload, 1) := by decide +kernel
theorem dX0_moods_19 : decode cX0_moods 19 = .ok (.getfield 138, 3) := by decide +kernel
theorem dX0_moods_22 : decode cX0_moods 22 = .ok (.iadd, 1) := by decide +kernel
theorem dX0_moods_23 : decode cX0_moods 23 = .ok (.istore_n 1, 1) := by decide +kernel
theorem dX0_moods_24 : decode cX0_moods 24 = .ok (.iinc 2 1, 3) := by decide +kernel
theorem dX0_moods_27 : decode cX0_moods 27 = .ok (.goto (-23), 3) := by decide +kernel
theorem dX0_moods_30 : decode cX0_moods 30 = .ok (.iload_n 1, 1) := by decide +kernel
theorem dX0_moods_31 : decode cX0_moods 31 = .ok (.ireturn, 1) := by decide +kernel
theorem dX0_visitsHad_0 : decode cX0_visitsHad 0 = .ok (.iconst 0, 1) := by decide +kernel
theorem dX0_visitsHad_1 : decode cX0_visitsHad 1 = .ok (.istore_n 1, 1) := by decide +kernel
theorem dX0_visitsHad_2 : decode cX0_visitsHad 2 = .ok (.iconst 0, 1) := by decide +kernel
theorem dX0_visitsHad_3 : decode cX0_visitsHad 3 = .ok (.istore_n 2, 1) := by decide +kernel
theorem dX0_visitsHad_4 : decode cX0_visitsHad 4 = .ok (.iload_n 2, 1) := by decide +kernel
theorem dX0_visitsHad_5 : decode cX0_visitsHad 5 = .ok (.aload_n 0, 1) := by decide +kernel
theorem dX0_visitsHad_6 : decode cX0_visitsHad 6 = .ok (.getfield 44, 3) := by decide +kernel
theorem dX0_visitsHad_9 : decode cX0_visitsHad 9 = .ok (.if_icmp .ge 21, 3) := by decide +kernel
theorem dX0_visitsHad_12 : decode cX0_visitsHad 12 = .ok (.iload_n 1, 1) := by decide +kernel
theorem dX0_visitsHad_13 : decode cX0_visitsHad 13 = .ok (.aload_n 0, 1) := by decide +kernel
theorem dX0_visitsHad_14 : decode cX0_visitsHad 14 = .ok (.getfield 20, 3) := by decide +kernel
theorem dX0_visitsHad_17 : decode cX0_visitsHad 17 = .ok (.iload_n 2, 1) := by decide +kernel
theorem dX0_visitsHad_18 : decode cX0_visitsHad 18 = .ok (.aaload, 1) := by decide +kernel
theorem dX0_visitsHad_19 : decode cX0_visitsHad 19 = .ok (.getfield 141, 3) := by decide +kernel
theorem dX0_visitsHad_22 : decode cX0_visitsHad 22 = .ok (.iadd, 1) := by decide +kernel
theorem dX0_visitsHad_23 : decode cX0_visitsHad 23 = .ok (.istore_n 1, 1) := by decide +kernel
theorem dX0_visitsHad_24 : decode cX0_visitsHad 24 = .ok (.iinc 2 1, 3) := by decide +kernel
theorem dX0_visitsHad_27 : decode cX0_visitsHad 27 = .ok (.goto (-23), 3) := by decide +kernel
theorem dX0_visitsHad_30 : decode cX0_visitsHad 30 = .ok (.iload_n 1, 1) := by decide +kernel
theorem dX0_visitsHad_31 : decode cX0_visitsHad 31 = .ok (.ireturn, 1) := by decide +kernel
theorem dX0_lowestMood_0 : decode cX0_lowestMood 0 = .ok (.bipush 99, 2) := by decide +kernel
theorem dX0_lowestMood_2 : decode cX0_lowestMood 2 = .ok (.istore_n 1, 1) := by decide +kernel
theorem dX0_lowestMood_3 : decode cX0_lowestMood 3 = .ok (.iconst 0, 1) := by decide +kernel
theorem dX0_lowestMood_4 : decode cX0_lowestMood 4 = .ok (.istore_n 2, 1) := by decide +kernel
theorem dX0_lowestMood_5 : decode cX0_lowestMood 5 = .ok (.iload_n 2, 1) := by decide +kernel
theorem dX0_lowestMood_6 : decode cX0_lowestMood 6 = .ok (.aload_n 0, 1) := by decide +kernel
theorem dX0_lowestMood_7 : decode cX0_lowestMood 7 = .ok (.getfield 44, 3) := by decide +kernel
theorem dX0_lowestMood_10 : decode cX0_lowestMood 10 = .ok (.if_icmp .ge 23, 3) := by decide +kernel
theorem dX0_lowestMood_13 : decode cX0_lowestMood 13 = .ok (.iload_n 1, 1) := by decide +kernel
theorem dX0_lowestMood_14 : decode cX0_lowestMood 14 = .ok (.aload_n 0, 1) := by decide +kernel
theorem dX0_lowestMood_15 : decode cX0_lowestMood 15 = .ok (.getfield 20, 3) := by decide +kernel
theorem dX0_lowestMood_18 : decode cX0_lowestMood 18 = .ok (.iload_n 2, 1) := by decide +kernel
theorem dX0_lowestMood_19 : decode cX0_lowestMood 19 = .ok (.aaload, 1) := by decide +kernel
theorem dX0_lowestMood_20 : decode cX0_lowestMood 20 = .ok (.getfield 138, 3) := by decide +kernel
theorem dX0_lowestMood_23 : decode cX0_lowestMood 23 = .ok (.invokestatic 106, 3) := by decide +kernel
theorem dX0_lowestMood_26 : decode cX0_lowestMood 26 = .ok (.istore_n 1, 1) := by decide +kernel
theorem dX0_lowestMood_27 : decode cX0_lowestMood 27 = .ok (.iinc 2 1, 3) := by decide +kernel
theorem dX0_lowestMood_30 : decode cX0_lowestMood 30 = .ok (.goto (-25), 3) := by decide +kernel
theorem dX0_lowestMood_33 : decode cX0_lowestMood 33 = .ok (.iload_n 1, 1) := by decide +kernel
theorem dX0_lowestMood_34 : decode cX0_lowestMood 34 = .ok (.ireturn, 1) := by decide +kernel
theorem dX0_wellOnes_0 : decode cX0_wellOnes 0 = .ok (.iconst 0, 1) := by decide +kernel
theorem dX0_wellOnes_1 : decode cX0_wellOnes 1 = .ok (.istore_n 1, 1) := by decide +kernel
theorem dX0_wellOnes_2 : decode cX0_wellOnes 2 = .ok (.iconst 0, 1) := by decide +kernel
theorem dX0_wellOnes_3 : decode cX0_wellOnes 3 = .ok (.istore_n 2, 1) := by decide +kernel
theorem dX0_wellOnes_4 : decode cX0_wellOnes 4 = .ok (.iload_n 2, 1) := by decide +kernel
theorem dX0_wellOnes_5 : decode cX0_wellOnes 5 = .ok (.aload_n 0, 1) := by decide +kernel
theorem dX0_wellOnes_6 : decode cX0_wellOnes 6 = .ok (.getfield 44, 3) := by decide +kernel
theorem dX0_wellOnes_9 : decode cX0_wellOnes 9 = .ok (.if_icmp .ge 27, 3) := by decide +kernel
theorem dX0_wellOnes_12 : decode cX0_wellOnes 12 = .ok (.aload_n 0, 1) := by decide +kernel
theorem dX0_wellOnes_13 : decode cX0_wellOnes 13 = .ok (.getfield 20, 3) := by decide +kernel
theorem dX0_wellOnes_16 : decode cX0_wellOnes 16 = .ok (.iload_n 2, 1) := by decide +kernel
theorem dX0_wellOnes_17 : decode cX0_wellOnes 17 = .ok (.aaload, 1) := by decide +kernel
theorem dX0_wellOnes_18 : decode cX0_wellOnes 18 = .ok (.invokevirtual 144, 3) := by decide +kernel
theorem dX0_wellOnes_21 : decode cX0_wellOnes 21 = .ok (.ifCond .eq 9, 3) := by decide +kernel
theorem dX0_wellOnes_24 : decode cX0_wellOnes 24 = .ok (.iload_n 1, 1) := by decide +kernel
theorem dX0_wellOnes_25 : decode cX0_wellOnes 25 = .ok (.iconst 1, 1) := by decide +kernel
theorem dX0_wellOnes_26 : decode cX0_wellOnes 26 = .ok (.iload_n 2, 1) := by decide +kernel
theorem dX0_wellOnes_27 : decode cX0_wellOnes 27 = .ok (.ishl, 1) := by decide +kernel
theorem dX0_wellOnes_28 : decode cX0_wellOnes 28 = .ok (.ior, 1) := by decide +kernel
theorem dX0_wellOnes_29 : decode cX0_wellOnes 29 = .ok (.istore_n 1, 1) := by decide +kernel
theorem dX0_wellOnes_30 : decode cX0_wellOnes 30 = .ok (.iinc 2 1, 3) := by decide +kernel
theorem dX0_wellOnes_33 : decode cX0_wellOnes 33 = .ok (.goto (-29), 3) := by decide +kernel
theorem dX0_wellOnes_36 : decode cX0_wellOnes 36 = .ok (.iload_n 1, 1) := by decide +kernel
theorem dX0_wellOnes_37 : decode cX0_wellOnes 37 = .ok (.ireturn, 1) := by decide +kernel
theorem dX0_heldSpots_0 : decode cX0_heldSpots 0 = .ok (.iconst 0, 1) := by decide +kernel
theorem dX0_heldSpots_1 : decode cX0_heldSpots 1 = .ok (.istore_n 1, 1) := by decide +kernel
theorem dX0_heldSpots_2 : decode cX0_heldSpots 2 = .ok (.iconst 0, 1) := by decide +kernel
theorem dX0_heldSpots_3 : decode cX0_heldSpots 3 = .ok (.istore_n 2, 1) := by decide +kernel
theorem dX0_heldSpots_4 : decode cX0_heldSpots 4 = .ok (.iload_n 2, 1) := by decide +kernel
theorem dX0_heldSpots_5 : decode cX0_heldSpots 5 = .ok (.bipush 10, 2) := by decide +kernel
theorem dX0_heldSpots_7 : decode cX0_heldSpots 7 = .ok (.if_icmp .ge 22, 3) := by decide +kernel
theorem dX0_heldSpots_10 : decode cX0_heldSpots 10 = .ok (.aload_n 0, 1) := by decide +kernel
theorem dX0_heldSpots_11 : decode cX0_heldSpots 11 = .ok (.getfield 29, 3) := by decide +kernel
theorem dX0_heldSpots_14 : decode cX0_heldSpots 14 = .ok (.iload_n 2, 1) := by decide +kernel
theorem dX0_heldSpots_15 : decode cX0_heldSpots 15 = .ok (.iaload, 1) := by decide +kernel
theorem dX0_heldSpots_16 : decode cX0_heldSpots 16 = .ok (.iconst (-1), 1) := by decide +kernel
theorem dX0_heldSpots_17 : decode cX0_heldSpots 17 = .ok (.if_icmp .eq 6, 3) := by decide +kernel
theorem dX0_heldSpots_20 : decode cX0_heldSpots 20 = .ok (.iinc 1 1, 3) := by decide +kernel
theorem dX0_heldSpots_23 : decode cX0_heldSpots 23 = .ok (.iinc 2 1, 3) := by decide +kernel
theorem dX0_heldSpots_26 : decode cX0_heldSpots 26 = .ok (.goto (-22), 3) := by decide +kernel
theorem dX0_heldSpots_29 : decode cX0_heldSpots 29 = .ok (.iload_n 1, 1) := by decide +kernel
theorem dX0_heldSpots_30 : decode cX0_heldSpots 30 = .ok (.ireturn, 1) := by decide +kernel
theorem dX1_init_0 : decode cX1_init 0 = .ok (.aload_n 0, 1) := by decide +kernel
theorem dX1_init_1 : decode cX1_init 1 = .ok (.invokespecial 3, 3) := by decide +kernel
theorem dX1_init_4 : decode cX1_init 4 = .ok (.return_, 1) := by decide +kernel
theorem dX1_begin_0 : decode cX1_begin 0 = .ok (.aload_n 0, 1) := by decide +kernel
theorem dX1_begin_1 : decode cX1_begin 1 = .ok (.iload_n 1, 1) := by decide +kernel
theorem dX1_begin_2 : decode cX1_begin 2 = .ok (.putfield 9, 3) := by decide +kernel
theorem dX1_begin_5 : decode cX1_begin 5 = .ok (.aload_n 0, 1) := by decide +kernel
theorem dX1_begin_6 : decode cX1_begin 6 = .ok (.bipush 50, 2) := by decide +kernel
theorem dX1_begin_8 : decode cX1_begin 8 = .ok (.putfield 15, 3) := by decide +kernel
theorem dX1_begin_11 : decode cX1_begin 11 = .ok (.aload_n 0, 1) := by decide +kernel
theorem dX1_begin_12 : decode cX1_begin 12 = .ok (.iconst (-1), 1) := by decide +kernel
theorem dX1_begin_13 : decode cX1_begin 13 = .ok (.putfield 18, 3) := by decide +kernel
theorem dX1_begin_16 : decode cX1_begin 16 = .ok (.aload_n 0, 1) := by decide +kernel
theorem dX1_begin_17 : decode cX1_begin 17 = .ok (.iconst 0, 1) := by decide +kernel
theorem dX1_begin_18 : decode cX1_begin 18 = .ok (.putfield 21, 3) := by decide +kernel
theorem dX1_begin_21 : decode cX1_begin 21 = .ok (.aload_n 0, 1) := by decide +kernel
theorem dX1_begin_22 : decode cX1_begin 22 = .ok (.iconst 0, 1) := by decide +kernel
theorem dX1_begin_23 : decode cX1_begin 23 = .ok (.putfield 24, 3) := by decide +kernel
theorem dX1_begin_26 : decode cX1_begin 26 = .ok (.return_, 1) := by decide +kernel
theorem dX1_take_0 : decode cX1_take 0 = .ok (.aload_n 0, 1) := by decide +kernel
theorem dX1_take_1 : decode cX1_take 1 = .ok (.aload_n 1, 1) := by decide +kernel
theorem dX1_take_2 : decode cX1_take 2 = .ok (.getfield 9, 3) := by decide +kernel
theorem dX1_take_5 : decode cX1_take 5 = .ok (.putfield 9, 3) := by decide +kernel
theorem dX1_take_8 : decode cX1_take 8 = .ok (.aload_n 0, 1) := by decide +kernel
theorem dX1_take_9 : decode cX1_take 9 = .ok (.aload_n 1, 1) := by decide +kernel
theorem dX1_take_10 : decode cX1_take 10 = .ok (.getfield 15, 3) := by decide +kernel
theorem dX1_take_13 : decode cX1_take 13 = .ok (.putfield 15, 3) := by decide +kernel
theorem dX1_take_16 : decode cX1_take 16 = .ok (.aload_n 0, 1) := by decide +kernel
theorem dX1_take_17 : decode cX1_take 17 = .ok (.aload_n 1, 1) := by decide +kernel
theorem dX1_take_18 : decode cX1_take 18 = .ok (.getfield 18, 3) := by decide +kernel
theorem dX1_take_21 : decode cX1_take 21 = .ok (.putfield 18, 3) := by decide +kernel
theorem dX1_take_24 : decode cX1_take 24 = .ok (.aload_n 0, 1) := by decide +kernel
theorem dX1_take_25 : decode cX1_take 25 = .ok (.aload_n 1, 1) := by decide +kernel
theorem dX1_take_26 : decode cX1_take 26 = .ok (.getfield 21, 3) := by decide +kernel
theorem dX1_take_29 : decode cX1_take 29 = .ok (.putfield 21, 3) := by decide +kernel
theorem dX1_take_32 : decode cX1_take 32 = .ok (.aload_n 0, 1) := by decide +kernel
theorem dX1_take_33 : decode cX1_take 33 = .ok (.aload_n 1, 1) := by decide +kernel
theorem dX1_take_34 : decode cX1_take 34 = .ok (.getfield 24, 3) := by decide +kernel
theorem dX1_take_37 : decode cX1_take 37 = .ok (.putfield 24, 3) := by decide +kernel
theorem dX1_take_40 : decode cX1_take 40 = .ok (.return_, 1) := by decide +kernel
theorem dX1_fact_0 : decode cX1_fact 0 = .ok (.iload_n 1, 1) := by decide +kernel
theorem dX1_fact_1 : decode cX1_fact 1 = .ok (.tableswitch 51 0 3 #[31, 36, 41, 46], 31) := by decide +kernel
theorem dX1_fact_32 : decode cX1_fact 32 = .ok (.aload_n 0, 1) := by decide +kernel
theorem dX1_fact_33 : decode cX1_fact 33 = .ok (.getfield 9, 3) := by decide +kernel
theorem dX1_fact_36 : decode cX1_fact 36 = .ok (.ireturn, 1) := by decide +kernel
theorem dX1_fact_37 : decode cX1_fact 37 = .ok (.aload_n 0, 1) := by decide +kernel
theorem dX1_fact_38 : decode cX1_fact 38 = .ok (.getfield 15, 3) := by decide +kernel
theorem dX1_fact_41 : decode cX1_fact 41 = .ok (.ireturn, 1) := by decide +kernel
theorem dX1_fact_42 : decode cX1_fact 42 = .ok (.aload_n 0, 1) := by decide +kernel
theorem dX1_fact_43 : decode cX1_fact 43 = .ok (.getfield 18, 3) := by decide +kernel
theorem dX1_fact_46 : decode cX1_fact 46 = .ok (.ireturn, 1) := by decide +kernel
theorem dX1_fact_47 : decode cX1_fact 47 = .ok (.aload_n 0, 1) := by decide +kernel
theorem dX1_fact_48 : decode cX1_fact 48 = .ok (.getfield 21, 3) := by decide +kernel
theorem dX1_fact_51 : decode cX1_fact 51 = .ok (.ireturn, 1) := by decide +kernel
theorem dX1_fact_52 : decode cX1_fact 52 = .ok (.aload_n 0, 1) := by decide +kernel
theorem dX1_fact_53 : decode cX1_fact 53 = .ok (.getfield 24, 3) := by decide +kernel
theorem dX1_fact_56 : decode cX1_fact 56 = .ok (.ireturn, 1) := by decide +kernel
theorem dX1_become_0 : decode cX1_become 0 = .ok (.iload_n 1, 1) := by decide +kernel
theorem dX1_become_1 : decode cX1_become 1 = .ok (.tableswitch 63 0 3 #[31, 39, 47, 55], 31) := by decide +kernel
theorem dX1_become_32 : decode cX1_become 32 = .ok (.aload_n 0, 1) := by decide +kernel
theorem dX1_become_33 : decode cX1_become 33 = .ok (.iload_n 2, 1) := by decide +kernel
theorem dX1_become_34 : decode cX1_become 34 = .ok (.putfield 9, 3) := by decide +kernel
theorem dX1_become_37 : decode cX1_become 37 = .ok (.goto 32, 3) := by decide +kernel
theorem dX1_become_40 : decode cX1_become 40 = .ok (.aload_n 0, 1) := by decide +kernel
theorem dX1_become_41 : decode cX1_become 41 = .ok (.iload_n 2, 1) := by decide +kernel
theorem dX1_become_42 : decode cX1_become 42 = .ok (.putfield 15, 3) := by decide +kernel
theorem dX1_become_45 : decode cX1_become 45 = .ok (.goto 24, 3) := by decide +kernel
theorem dX1_become_48 : decode cX1_become 48 = .ok (.aload_n 0, 1) := by decide +kernel
theorem dX1_become_49 : decode cX1_become 49 = .ok (.iload_n 2, 1) := by decide +kernel
theorem dX1_become_50 : decode cX1_become 50 = .ok (.putfield 18, 3) := by decide +kernel
theorem dX1_become_53 : decode cX1_become 53 = .ok (.goto 16, 3) := by decide +kernel
theorem dX1_become_56 : decode cX1_become 56 = .ok (.aload_n 0, 1) := by decide +kernel
theorem dX1_become_57 : decode cX1_become 57 = .ok (.iload_n 2, 1) := by decide +kernel
theorem dX1_become_58 : decode cX1_become 58 = .ok (.putfield 21, 3) := by decide +kernel
theorem dX1_become_61 : decode cX1_become 61 = .ok (.goto 8, 3) := by decide +kernel
theorem dX1_become_64 : decode cX1_become 64 = .ok (.aload_n 0, 1) := by decide +kernel
theorem dX1_become_65 : decode cX1_become 65 = .ok (.iload_n 2, 1) := by decide +kernel
theorem dX1_become_66 : decode cX1_become 66 = .ok (.putfield 24, 3) := by decide +kernel
theorem dX1_become_69 : decode cX1_become 69 = .ok (.return_, 1) := by decide +kernel
theorem dX1_isWell_0 : decode cX1_isWell 0 = .ok (.aload_n 0, 1) := by decide +kernel
theorem dX1_isWell_1 : decode cX1_isWell 1 = .ok (.getfield 15, 3) := by decide +kernel
theorem dX1_isWell_4 : decode cX1_isWell 4 = .ok (.bipush 60, 2) := by decide +kernel
theorem dX1_isWell_6 : decode cX1_isWell 6 = .ok (.if_icmp .lt 7, 3) := by decide +kernel
theorem dX1_isWell_9 : decode cX1_isWell 9 = .ok (.iconst 1, 1) := by decide +kernel
theorem dX1_isWell_10 : decode cX1_isWell 10 = .ok (.goto 4, 3) := by decide +kernel
theorem dX1_isWell_13 : decode cX1_isWell 13 = .ok (.iconst 0, 1) := by decide +kernel
theorem dX1_isWell_14 : decode cX1_isWell 14 = .ok (.ireturn, 1) := by decide +kernel
theorem dX1_wellSign_0 : decode cX1_wellSign 0 = .ok (.aload_n 0, 1) := by decide +kernel
theorem dX1_wellSign_1 : decode cX1_wellSign 1 = .ok (.invokevirtual 27, 3) := by decide +kernel
theorem dX1_wellSign_4 : decode cX1_wellSign 4 = .ok (.ifCond .eq 7, 3) := by decide +kernel
theorem dX1_wellSign_7 : decode cX1_wellSign 7 = .ok (.iconst 1, 1) := by decide +kernel
theorem dX1_wellSign_8 : decode cX1_wellSign 8 = .ok (.goto 4, 3) := by decide +kernel
theorem dX1_wellSign_11 : decode cX1_wellSign 11 = .ok (.iconst 0, 1) := by decide +kernel
theorem dX1_wellSign_12 : decode cX1_wellSign 12 = .ok (.ireturn, 1) := by decide +kernel
theorem dX1_reaches_0 : decode cX1_reaches 0 = .ok (.iload_n 1, 1) := by decide +kernel
theorem dX1_reaches_1 : decode cX1_reaches 1 = .ok (.lookupswitch 55 #[(0, 27), (1, 41)], 27) := by decide +kernel
theorem dX1_reaches_28 : decode cX1_reaches 28 = .ok (.aload_n 0, 1) := by decide +kernel
theorem dX1_reaches_29 : decode cX1_reaches 29 = .ok (.getfield 15, 3) := by decide +kernel
theorem dX1_reaches_32 : decode cX1_reaches 32 = .ok (.iload_n 2, 1) := by decide +kernel
theorem dX1_reaches_33 : decode cX1_reaches 33 = .ok (.if_icmp .lt 7, 3) := by decide +kernel
theorem dX1_reaches_36 : decode cX1_reaches 36 = .ok (.iconst 1, 1) := by decide +kernel
theorem dX1_reaches_37 : decode cX1_reaches 37 = .ok (.goto 4, 3) := by decide +kernel
theorem dX1_reaches_40 : decode cX1_reaches 40 = .ok (.iconst 0, 1) := by decide +kernel
theorem dX1_reaches_41 : decode cX1_reaches 41 = .ok (.ireturn, 1) := by decide +kernel
theorem dX1_reaches_42 : decode cX1_reaches 42 = .ok (.aload_n 0, 1) := by decide +kernel
theorem dX1_reaches_43 : decode cX1_reaches 43 = .ok (.getfield 15, 3) := by decide +kernel
theorem dX1_reaches_46 : decode cX1_reaches 46 = .ok (.iload_n 2, 1) := by decide +kernel
theorem dX1_reaches_47 : decode cX1_reaches 47 = .ok (.if_icmp .gt 7, 3) := by decide +kernel
theorem dX1_reaches_50 : decode cX1_reaches 50 = .ok (.iconst 1, 1) := by decide +kernel
theorem dX1_reaches_51 : decode cX1_reaches 51 = .ok (.goto 4, 3) := by decide +kernel
theorem dX1_reaches_54 : decode cX1_reaches 54 = .ok (.iconst 0, 1) := by decide +kernel
theorem dX1_reaches_55 : decode cX1_reaches 55 = .ok (.ireturn, 1) := by decide +kernel
theorem dX1_reaches_56 : decode cX1_reaches 56 = .ok (.aload_n 0, 1) := by decide +kernel
theorem dX1_reaches_57 : decode cX1_reaches 57 = .ok (.getfield 24, 3) := by decide +kernel
theorem dX1_reaches_60 : decode cX1_reaches 60 = .ok (.iload_n 2, 1) := by decide +kernel
theorem dX1_reaches_61 : decode cX1_reaches 61 = .ok (.if_icmp .lt 7, 3) := by decide +kernel
theorem dX1_reaches_64 : decode cX1_reaches 64 = .ok (.iconst 1, 1) := by decide +kernel
theorem dX1_reaches_65 : decode cX1_reaches 65 = .ok (.goto 4, 3) := by decide +kernel
theorem dX1_reaches_68 : decode cX1_reaches 68 = .ok (.iconst 0, 1) := by decide +kernel
theorem dX1_reaches_69 : decode cX1_reaches 69 = .ok (.ireturn, 1) := by decide +kernel
theorem dX1_seats_0 : decode cX1_seats 0 = .ok (.iconst 2, 1) := by decide +kernel
theorem dX1_seats_1 : decode cX1_seats 1 = .ok (.istore_n 1, 1) := by decide +kernel
theorem dX1_seats_2 : decode cX1_seats 2 = .ok (.aload_n 0, 1) := by decide +kernel
theorem dX1_seats_3 : decode cX1_seats 3 = .ok (.getfield 9, 3) := by decide +kernel
theorem dX1_seats_6 : decode cX1_seats 6 = .ok (.tableswitch 50 1 6 #[38, 48, 48, 48, 50, 42], 38) := by decide +kernel
theorem dX1_seats_44 : decode cX1_seats 44 = .ok (.iload_n 1, 1) := by decide +kernel
theorem dX1_seats_45 : decode cX1_seats 45 = .ok (.iconst 1, 1) := by decide +kernel
theorem dX1_seats_46 : decode cX1_seats 46 = .ok (.iadd, 1) := by decide +kernel
theorem dX1_seats_47 : decode cX1_seats 47 = .ok (.ireturn, 1) := by decide +kernel
theorem dX1_seats_48 : decode cX1_seats 48 = .ok (.iload_n 1, 1) := by decide +kernel
theorem dX1_seats_49 : decode cX1_seats 49 = .ok (.iconst 1, 1) := by decide +kernel
theorem dX1_seats_50 : decode cX1_seats 50 = .ok (.iadd, 1) := by decide +kernel
theorem dX1_seats_51 : decode cX1_seats 51 = .ok (.iconst 1, 1) := by decide +kernel
theorem dX1_seats_52 : decode cX1_seats 52 = .ok (.iadd, 1) := by decide +kernel
theorem dX1_seats_53 : decode cX1_seats 53 = .ok (.ireturn, 1) := by decide +kernel
theorem dX1_seats_54 : decode cX1_seats 54 = .ok (.iconst 1, 1) := by decide +kernel
theorem dX1_seats_55 : decode cX1_seats 55 = .ok (.ireturn, 1) := by decide +kernel
theorem dX1_seats_56 : decode cX1_seats 56 = .ok (.iload_n 1, 1) := by decide +kernel
theorem dX1_seats_57 : decode cX1_seats 57 = .ok (.ireturn, 1) := by decide +kernel
theorem dX1_gains_0 : decode cX1_gains 0 = .ok (.iconst 2, 1) := by decide +kernel
theorem dX1_gains_1 : decode cX1_gains 1 = .ok (.iload_n 1, 1) := by decide +kernel
theorem dX1_gains_2 : decode cX1_gains 2 = .ok (.imul, 1) := by decide +kernel
theorem dX1_gains_3 : decode cX1_gains 3 = .ok (.bipush 12, 2) := by decide +kernel
theorem dX1_gains_5 : decode cX1_gains 5 = .ok (.invokestatic 31, 3) := by decide +kernel
theorem dX1_gains_8 : decode cX1_gains 8 = .ok (.istore_n 2, 1) := by decide +kernel
theorem dX1_gains_9 : decode cX1_gains 9 = .ok (.aload_n 0, 1) := by decide +kernel
theorem dX1_gains_10 : decode cX1_gains 10 = .ok (.getfield 9, 3) := by decide +kernel
theorem dX1_gains_13 : decode cX1_gains 13 = .ok (.tableswitch 67 1 6 #[39, 43, 47, 47, 53, 39], 39) := by decide +kernel
theorem dX1_gains_52 : decode cX1_gains 52 = .ok (.iload_n 2, 1) := by decide +kernel
theorem dX1_gains_53 : decode cX1_gains 53 = .ok (.iload_n 1, 1) := by decide +kernel
theorem dX1_gains_54 : decode cX1_gains 54 = .ok (.iadd, 1) := by decide +kernel
theorem dX1_gains_55 : decode cX1_gains 55 = .ok (.ireturn, 1) := by decide +kernel
theorem dX1_gains_56 : decode cX1_gains 56 = .ok (.iload_n 2, 1) := by decide +kernel
theorem dX1_gains_57 : decode cX1_gains 57 = .ok (.iconst 2, 1) := by decide +kernel
theorem dX1_gains_58 : decode cX1_gains 58 = .ok (.idiv, 1) := by decide +kernel
theorem dX1_gains_59 : decode cX1_gains 59 = .ok (.ireturn, 1) := by decide +kernel
theorem dX1_gains_60 : decode cX1_gains 60 = .ok (.iload_n 2, 1) := by decide +kernel
theorem dX1_gains_61 : decode cX1_gains 61 = .ok (.iconst 2, 1) := by decide +kernel
theorem dX1_gains_62 : decode cX1_gains 62 = .ok (.idiv, 1) := by decide +kernel
theorem dX1_gains_63 : decode cX1_gains 63 = .ok (.iconst 5, 1) := by decide +kernel
theorem dX1_gains_64 : decode cX1_gains 64 = .ok (.iadd, 1) := by decide +kernel
theorem dX1_gains_65 : decode cX1_gains 65 = .ok (.ireturn, 1) := by decide +kernel
theorem dX1_gains_66 : decode cX1_gains 66 = .ok (.iload_n 1, 1) := by decide +kernel
theorem dX1_gains_67 : decode cX1_gains 67 = .ok (.bipush 6, 2) := by decide +kernel
theorem dX1_gains_69 : decode cX1_gains 69 = .ok (.if_icmp .le 9, 3) := by decide +kernel
theorem dX1_gains_72 : decode cX1_gains 72 = .ok (.iload_n 2, 1) := by decide +kernel
theorem dX1_gains_73 : decode cX1_gains 73 = .ok (.iconst 2, 1) := by decide +kernel
theorem dX1_gains_74 : decode cX1_gains 74 = .ok (.isub, 1) := by decide +kernel
theorem dX1_gains_75 : decode cX1_gains 75 = .ok (.goto 4, 3) := by decide +kernel
theorem dX1_gains_78 : decode cX1_gains 78 = .ok (.iload_n 2, 1) := by decide +kernel
theorem dX1_gains_79 : decode cX1_gains 79 = .ok (.ireturn, 1) := by decide +kernel
theorem dX1_gains_80 : decode cX1_gains 80 = .ok (.iload_n 2, 1) := by decide +kernel
theorem dX1_gains_81 : decode cX1_gains 81 = .ok (.ireturn, 1) := by decide +kernel
theorem dX1_loses_0 : decode cX1_loses 0 = .ok (.iconst 3, 1) := by decide +kernel
theorem dX1_loses_1 : decode cX1_loses 1 = .ok (.istore_n 2, 1) := by decide +kernel
theorem dX1_loses_2 : decode cX1_loses 2 = .ok (.aload_n 0, 1) := by decide +kernel
theorem dX1_loses_3 : decode cX1_loses 3 = .ok (.getfield 9, 3) := by decide +kernel
theorem dX1_loses_6 : decode cX1_loses 6 = .ok (.tableswitch 72 1 6 #[38, 42, 46, 66, 68, 38], 38) := by decide +kernel
theorem dX1_loses_44 : decode cX1_loses 44 = .ok (.iload_n 2, 1) := by decide +kernel
theorem dX1_loses_45 : decode cX1_loses 45 = .ok (.iconst 1, 1) := by decide +kernel
theorem dX1_loses_46 : decode cX1_loses 46 = .ok (.isub, 1) := by decide +kernel
theorem dX1_loses_47 : decode cX1_loses 47 = .ok (.ireturn, 1) := by decide +kernel
theorem dX1_loses_48 : decode cX1_loses 48 = .ok (.iload_n 2, 1) := by decide +kernel
theorem dX1_loses_49 : decode cX1_loses 49 = .ok (.iconst 2, 1) := by decide +kernel
theorem dX1_loses_50 : decode cX1_loses 50 = .ok (.isub, 1) := by decide +kernel
theorem dX1_loses_51 : decode cX1_loses 51 = .ok (.ireturn, 1) := by decide +kernel
theorem dX1_loses_52 : decode cX1_loses 52 = .ok (.aload_n 0, 1) := by decide +kernel
theorem dX1_loses_53 : decode cX1_loses 53 = .ok (.getfield 21, 3) := by decide +kernel
theorem dX1_loses_56 : decode cX1_loses 56 = .ok (.iconst 4, 1) := by decide +kernel
theorem dX1_loses_57 : decode cX1_loses 57 = .ok (.if_icmp .lt 11, 3) := by decide +kernel
theorem dX1_loses_60 : decode cX1_loses 60 = .ok (.iload_n 2, 1) := by decide +kernel
theorem dX1_loses_61 : decode cX1_loses 61 = .ok (.iconst 2, 1) := by decide +kernel
theorem dX1_loses_62 : decode cX1_loses 62 = .ok (.isub, 1) := by decide +kernel
theorem dX1_loses_63 : decode cX1_loses 63 = .ok (.iconst 1, 1) := by decide +kernel
theorem dX1_loses_64 : decode cX1_loses 64 = .ok (.iadd, 1) := by decide +kernel
theorem dX1_loses_65 : decode cX1_loses 65 = .ok (.goto 6, 3) := by decide +kernel
theorem dX1_loses_68 : decode cX1_loses 68 = .ok (.iload_n 2, 1) := by decide +kernel
theorem dX1_loses_69 : decode cX1_loses 69 = .ok (.iconst 2, 1) := by decide +kernel
theorem dX1_loses_70 : decode cX1_loses 70 = .ok (.isub, 1) := by decide +kernel
theorem dX1_loses_71 : decode cX1_loses 71 = .ok (.ireturn, 1) := by decide +kernel
theorem dX1_loses_72 : decode cX1_loses 72 = .ok (.iconst 0, 1) := by decide +kernel
theorem dX1_loses_73 : decode cX1_loses 73 = .ok (.ireturn, 1) := by decide +kernel
theorem dX1_loses_74 : decode cX1_loses 74 = .ok (.iload_n 2, 1) := by decide +kernel
theorem dX1_loses_75 : decode cX1_loses 75 = .ok (.iload_n 1, 1) := by decide +kernel
theorem dX1_loses_76 : decode cX1_loses 76 = .ok (.iadd, 1) := by decide +kernel
theorem dX1_loses_77 : decode cX1_loses 77 = .ok (.ireturn, 1) := by decide +kernel
theorem dX1_loses_78 : decode cX1_loses 78 = .ok (.iload_n 2, 1) := by decide +kernel
theorem dX1_loses_79 : decode cX1_loses 79 = .ok (.ireturn, 1) := by decide +kernel
theorem dX1_shares_0 : decode cX1_shares 0 = .ok (.aload_n 0, 1) := by decide +kernel
theorem dX1_shares_1 : decode cX1_shares 1 = .ok (.getfield 9, 3) := by decide +kernel
theorem dX1_shares_4 : decode cX1_shares 4 = .ok (.tableswitch 36 3 6 #[32, 34, 36, 32], 32) := by decide +kernel
theorem dX1_shares_36 : decode cX1_shares 36 = .ok (.iconst 1, 1) := by decide +kernel
theorem dX1_shares_37 : decode cX1_shares 37 = .ok (.ireturn, 1) := by decide +kernel
theorem dX1_shares_38 : decode cX1_shares 38 = .ok (.iconst 0, 1) := by decide +kernel
theorem dX1_shares_39 : decode cX1_shares 39 = .ok (.ireturn, 1) := by decide +kernel
theorem dX1_shares_40 : decode cX1_shares 40 = .ok (.aload_n 0, 1) := by decide +kernel
theorem dX1_shares_41 : decode cX1_shares 41 = .ok (.getfield 15, 3) := by decide +kernel
theorem dX1_shares_44 : decode cX1_shares 44 = .ok (.bipush 70, 2) := by decide +kernel
theorem dX1_shares_46 : decode cX1_shares 46 = .ok (.if_icmp .lt 7, 3) := by decide +kernel
theorem dX1_shares_49 : decode cX1_shares 49 = .ok (.iconst 1, 1) := by decide +kernel
theorem dX1_shares_50 : decode cX1_shares 50 = .ok (.goto 4, 3) := by decide +kernel
theorem dX1_shares_53 : decode cX1_shares 53 = .ok (.iconst 0, 1) := by decide +kernel
theorem dX1_shares_54 : decode cX1_shares 54 = .ok (.ireturn, 1) := by decide +kernel
theorem dX1_feel_0 : decode cX1_feel 0 = .ok (.aload_n 0, 1) := by decide +kernel
theorem dX1_feel_1 : decode cX1_feel 1 = .ok (.iconst 0, 1) := by decide +kernel
theorem dX1_feel_2 : decode cX1_feel 2 = .ok (.bipush 99, 2) := by decide +kernel
theorem dX1_feel_4 : decode cX1_feel 4 = .ok (.aload_n 0, 1) := by decide +kernel
theorem dX1_feel_5 : decode cX1_feel 5 = .ok (.getfield 15, 3) := by decide +kernel
theorem dX1_feel_8 : decode cX1_feel 8 = .ok (.iload_n 1, 1) := by decide +kernel
theorem dX1_feel_9 : decode cX1_feel 9 = .ok (.iadd, 1) := by decide +kernel
theorem dX1_feel_10 : decode cX1_feel 10 = .ok (.invokestatic 31, 3) := by decide +kernel
theorem dX1_feel_13 : decode cX1_feel 13 = .ok (.invokestatic 37, 3) := by decide +kernel
theorem dX1_feel_16 : decode cX1_feel 16 = .ok (.putfield 15, 3) := by decide +kernel
theorem dX1_feel_19 : decode cX1_feel 19 = .ok (.return_, 1) := by decide +kernel
theorem dX1_beVisited_0 : decode cX1_beVisited 0 = .ok (.aload_n 0, 1) := by decide +kernel
theorem dX1_beVisited_1 : decode cX1_beVisited 1 = .ok (.aload_n 0, 1) := by decide +kernel
theorem dX1_beVisited_2 : decode cX1_beVisited 2 = .ok (.iload_n 1, 1) := by decide +kernel
theorem dX1_beVisited_3 : decode cX1_beVisited 3 = .ok (.invokevirtual 40, 3) := by decide +kernel
theorem dX1_beVisited_6 : decode cX1_beVisited 6 = .ok (.iload_n 2, 1) := by decide +kernel
theorem dX1_beVisited_7 : decode cX1_beVisited 7 = .ok (.ifCond .eq 7, 3) := by decide +kernel
theorem dX1_beVisited_10 : decode cX1_beVisited 10 = .ok (.iconst 1, 1) := by decide +kernel
theorem dX1_beVisited_11 : decode cX1_beVisited 11 = .ok (.goto 4, 3) := by decide +kernel
theorem dX1_beVisited_14 : decode cX1_beVisited 14 = .ok (.iconst 0, 1) := by decide +kernel
theorem dX1_beVisited_15 : decode cX1_beVisited 15 = .ok (.iadd, 1) := by decide +kernel
theorem dX1_beVisited_16 : decode cX1_beVisited 16 = .ok (.invokevirtual 44, 3) := by decide +kernel
theorem dX1_beVisited_19 : decode cX1_beVisited 19 = .ok (.aload_n 0, 1) := by decide +kernel
theorem dX1_beVisited_20 : decode cX1_beVisited 20 = .ok (.iconst 0, 1) := by decide +kernel
theorem dX1_beVisited_21 : decode cX1_beVisited 21 = .ok (.putfield 21, 3) := by decide +kernel
theorem dX1_beVisited_24 : decode cX1_beVisited 24 = .ok (.aload_n 0, 1) := by decide +kernel
theorem dX1_beVisited_25 : decode cX1_beVisited 25 = .ok (.sipush 9999, 3) := by decide +kernel
theorem dX1_beVisited_28 : decode cX1_beVisited 28 = .ok (.aload_n 0, 1) := by decide +kernel
theorem dX1_beVisited_29 : decode cX1_beVisited 29 = .ok (.getfield 24, 3) := by decide +kernel
theorem dX1_beVisited_32 : decode cX1_beVisited 32 = .ok (.iconst 1, 1) := by decide +kernel
theorem dX1_beVisited_33 : decode cX1_beVisited 33 = .ok (.iadd, 1) := by decide +kernel
theorem dX1_beVisited_34 : decode cX1_beVisited 34 = .ok (.invokestatic 31, 3) := by decide +kernel
theorem dX1_beVisited_37 : decode cX1_beVisited 37 = .ok (.putfield 24, 3) := by decide +kernel
theorem dX1_beVisited_40 : decode cX1_beVisited 40 = .ok (.return_, 1) := by decide +kernel
theorem dX1_beSharing_0 : decode cX1_beSharing 0 = .ok (.aload_n 0, 1) := by decide +kernel
theorem dX1_beSharing_1 : decode cX1_beSharing 1 = .ok (.aload_n 0, 1) := by decide +kernel
theorem dX1_beSharing_2 : decode cX1_beSharing 2 = .ok (.iload_n 1, 1) := by decide +kernel
theorem dX1_beSharing_3 : decode cX1_beSharing 3 = .ok (.invokevirtual 40, 3) := by decide +kernel
theorem dX1_beSharing_6 : decode cX1_beSharing 6 = .ok (.iconst 2, 1) := by decide +kernel
theorem dX1_beSharing_7 : decode cX1_beSharing 7 = .ok (.idiv, 1) := by decide +kernel
theorem dX1_beSharing_8 : decode cX1_beSharing 8 = .ok (.invokevirtual 44, 3) := by decide +kernel
theorem dX1_beSharing_11 : decode cX1_beSharing 11 = .ok (.aload_n 0, 1) := by decide +kernel
theorem dX1_beSharing_12 : decode cX1_beSharing 12 = .ok (.invokevirtual 48, 3) := by decide +kernel
theorem dX1_beSharing_15 : decode cX1_beSharing 15 = .ok (.return_, 1) := by decide +kernel
theorem dX1_beHelped_0 : decode cX1_beHelped 0 = .ok (.aload_n 0, 1) := by decide +kernel
theorem dX1_beHelped_1 : decode cX1_beHelped 1 = .ok (.iconst 4, 1) := by decide +kernel
theorem dX1_beHelped_2 : decode cX1_beHelped 2 = .ok (.invokevirtual 44, 3) := by decide +kernel
theorem dX1_beHelped_5 : decode cX1_beHelped 5 = .ok (.aload_n 0, 1) := by decide +kernel
theorem dX1_beHelped_6 : decode cX1_beHelped 6 = .ok (.iconst 0, 1) := by decide +kernel
theorem dX1_beHelped_7 : decode cX1_beHelped 7 = .ok (.putfield 21, 3) := by decide +kernel
theorem dX1_beHelped_10 : decode cX1_beHelped 10 = .ok (.return_, 1) := by decide +kernel
theorem dX1_beAlone_0 : decode cX1_beAlone 0 = .ok (.aload_n 0, 1) := by decide +kernel
theorem dX1_beAlone_1 : decode cX1_beAlone 1 = .ok (.aload_n 0, 1) := by decide +kernel
theorem dX1_beAlone_2 : decode cX1_beAlone 2 = .ok (.iload_n 1, 1) := by decide +kernel
theorem dX1_beAlone_3 : decode cX1_beAlone 3 = .ok (.invokevirtual 51, 3) := by decide +kernel
theorem dX1_beAlone_6 : decode cX1_beAlone 6 = .ok (.ineg, 1) := by decide +kernel
theorem dX1_beAlone_7 : decode cX1_beAlone 7 = .ok (.invokevirtual 44, 3) := by decide +kernel
theorem dX1_beAlone_10 : decode cX1_beAlone 10 = .ok (.aload_n 0, 1) := by decide +kernel
theorem dX1_beAlone_11 : decode cX1_beAlone 11 = .ok (.invokevirtual 48, 3) := by decide +kernel
theorem dX1_beAlone_14 : decode cX1_beAlone 14 = .ok (.return_, 1) := by decide +kernel
theorem dX1_waitOn_0 : decode cX1_waitOn 0 = .ok (.aload_n 0, 1) := by decide +kernel
theorem dX1_waitOn_1 : decode cX1_waitOn 1 = .ok (.sipush 9999, 3) := by decide +kernel
theorem dX1_waitOn_4 : decode cX1_waitOn 4 = .ok (.aload_n 0, 1) := by decide +kernel
theorem dX1_waitOn_5 : decode cX1_waitOn 5 = .ok (.getfield 21, 3) := by decide +kernel
theorem dX1_waitOn_8 : decode cX1_waitOn 8 = .ok (.iconst 1, 1) := by decide +kernel
theorem dX1_waitOn_9 : decode cX1_waitOn 9 = .ok (.iadd, 1) := by decide +kernel
theorem dX1_waitOn_10 : decode cX1_waitOn 10 = .ok (.invokestatic 31, 3) := by decide +kernel
theorem dX1_waitOn_13 : decode cX1_waitOn 13 = .ok (.putfield 21, 3) := by decide +kernel
theorem dX1_waitOn_16 : decode cX1_waitOn 16 = .ok (.return_, 1) := by decide +kernel
theorem dX2_init_0 : decode cX2_init 0 = .ok (.aload_n 0, 1) := by decide +kernel
theorem dX2_init_1 : decode cX2_init 1 = .ok (.invokespecial 3, 3) := by decide +kernel
theorem dX2_init_4 : decode cX2_init 4 = .ok (.aload_n 0, 1) := by decide +kernel
theorem dX2_init_5 : decode cX2_init 5 = .ok (.bipush 40, 2) := by decide +kernel
theorem dX2_init_7 : decode cX2_init 7 = .ok (.newarray .int, 2) := by decide +kernel
theorem dX2_init_9 : decode cX2_init 9 = .ok (.putfield 9, 3) := by decide +kernel
theorem dX2_init_12 : decode cX2_init 12 = .ok (.return_, 1) := by decide +kernel
theorem dX2_isMissing_0 : decode cX2_isMissing 0 = .ok (.aload_n 0, 1) := by decide +kernel
theorem dX2_isMissing_1 : decode cX2_isMissing 1 = .ok (.getfield 15, 3) := by decide +kernel
theorem dX2_isMissing_4 : decode cX2_isMissing 4 = .ok (.ifCond .ne 7, 3) := by decide +kernel
theorem dX2_isMissing_7 : decode cX2_isMissing 7 = .ok (.iconst 1, 1) := by decide +kernel
theorem dX2_isMissing_8 : decode cX2_isMissing 8 = .ok (.goto 4, 3) := by decide +kernel
theorem dX2_isMissing_11 : decode cX2_isMissing 11 = .ok (.iconst 0, 1) := by decide +kernel
theorem dX2_isMissing_12 : decode cX2_isMissing 12 = .ok (.ireturn, 1) := by decide +kernel
theorem dX2_renew_0 : decode cX2_renew 0 = .ok (.aload_n 0, 1) := by decide +kernel
theorem dX2_renew_1 : decode cX2_renew 1 = .ok (.iload_n 1, 1) := by decide +kernel
theorem dX2_renew_2 : decode cX2_renew 2 = .ok (.putfield 15, 3) := by decide +kernel
theorem dX2_renew_5 : decode cX2_renew 5 = .ok (.aload_n 0, 1) := by decide +kernel
theorem dX2_renew_6 : decode cX2_renew 6 = .ok (.iload_n 1, 1) := by decide +kernel
theorem dX2_renew_7 : decode cX2_renew 7 = .ok (.ifCond .ne 7, 3) := by decide +kernel
theorem dX2_renew_10 : decode cX2_renew 10 = .ok (.iconst 0, 1) := by decide +kernel
theorem dX2_renew_11 : decode cX2_renew 11 = .ok (.goto 4, 3) := by decide +kernel
theorem dX2_renew_14 : decode cX2_renew 14 = .ok (.iload_n 2, 1) := by decide +kernel
theorem dX2_renew_15 : decode cX2_renew 15 = .ok (.putfield 19, 3) := by decide +kernel
theorem dX2_renew_18 : decode cX2_renew 18 = .ok (.aload_n 0, 1) := by decide +kernel
theorem dX2_renew_19 : decode cX2_renew 19 = .ok (.getfield 9, 3) := by decide +kernel
theorem dX2_renew_22 : decode cX2_renew 22 = .ok (.iconst 0, 1) := by decide +kernel
theorem dX2_renew_23 : decode cX2_renew 23 = .ok (.invokestatic 22, 3) := by decide +kernel
theorem dX2_renew_26 : decode cX2_renew 26 = .ok (.return_, 1) := by decide +kernel
theorem dX2_cut_0 : decode cX2_cut 0 = .ok (.aload_n 0, 1) := by decide +kernel
theorem dX2_cut_1 : decode cX2_cut 1 = .ok (.getfield 15, 3) := by decide +kernel
theorem dX2_cut_4 : decode cX2_cut 4 = .ok (.lookupswitch 34 #[(8, 28), (16, 31)], 28) := by decide +kernel
theorem dX2_cut_32 : decode cX2_cut 32 = .ok (.iload_n 1, 1) := by decide +kernel
theorem dX2_cut_33 : decode cX2_cut 33 = .ok (.i2b, 1) := by decide +kernel
theorem dX2_cut_34 : decode cX2_cut 34 = .ok (.ireturn, 1) := by decide +kernel
theorem dX2_cut_35 : decode cX2_cut 35 = .ok (.iload_n 1, 1) := by decide +kernel
theorem dX2_cut_36 : decode cX2_cut 36 = .ok (.i2s, 1) := by decide +kernel
theorem dX2_cut_37 : decode cX2_cut 37 = .ok (.ireturn, 1) := by decide +kernel
theorem dX2_cut_38 : decode cX2_cut 38 = .ok (.iload_n 1, 1) := by decide +kernel
theorem dX2_cut_39 : decode cX2_cut 39 = .ok (.ireturn, 1) := by decide +kernel
theorem dX2_hasRun_0 : decode cX2_hasRun 0 = .ok (.iload_n 2, 1) := by decide +kernel
theorem dX2_hasRun_1 : decode cX2_hasRun 1 = .ok (.ifCond .lt 29, 3) := by decide +kernel
theorem dX2_hasRun_4 : decode cX2_hasRun 4 = .ok (.iload_n 2, 1) := by decide +kernel
theorem dX2_hasRun_5 : decode cX2_hasRun 5 = .ok (.aload_n 0, 1) := by decide +kernel
theorem dX2_hasRun_6 : decode cX2_hasRun 6 = .ok (.getfield 19, 3) := by decide +kernel
theorem dX2_hasRun_9 : decode cX2_hasRun 9 = .ok (.if_icmp .gt 21, 3) := by decide +kernel
theorem dX2_hasRun_12 : decode cX2_hasRun 12 = .ok (.iload_n 1, 1) := by decide +kernel
theorem dX2_hasRun_13 : decode cX2_hasRun 13 = .ok (.ifCond .lt 17, 3) := by decide +kernel
theorem dX2_hasRun_16 : decode cX2_hasRun 16 = .ok (.iload_n 1, 1) := by decide +kernel
theorem dX2_hasRun_17 : decode cX2_hasRun 17 = .ok (.aload_n 0, 1) := by decide +kernel
theorem dX2_hasRun_18 : decode cX2_hasRun 18 = .ok (.getfield 19, 3) := by decide +kernel
theorem dX2_hasRun_21 : decode cX2_hasRun 21 = .ok (.iload_n 2, 1) := by decide +kernel
theorem dX2_hasRun_22 : decode cX2_hasRun 22 = .ok (.isub, 1) := by decide +kernel
theorem dX2_hasRun_23 : decode cX2_hasRun 23 = .ok (.if_icmp .gt 7, 3) := by decide +kernel
theorem dX2_hasRun_26 : decode cX2_hasRun 26 = .ok (.iconst 1, 1) := by decide +kernel
theorem dX2_hasRun_27 : decode cX2_hasRun 27 = .ok (.goto 4, 3) := by decide +kernel
theorem dX2_hasRun_30 : decode cX2_hasRun 30 = .ok (.iconst 0, 1) := by decide +kernel
theorem dX2_hasRun_31 : decode cX2_hasRun 31 = .ok (.ireturn, 1) := by decide +kernel
theorem dX3_init_0 : decode cX3_init 0 = .ok (.aload_n 0, 1) := by decide +kernel
theorem dX3_init_1 : decode cX3_init 1 = .ok (.invokespecial 3, 3) := by decide +kernel
theorem dX3_init_4 : decode cX3_init 4 = .ok (.aload_n 0, 1) := by decide +kernel
theorem dX3_init_5 : decode cX3_init 5 = .ok (.bipush 120, 2) := by decide +kernel
theorem dX3_init_7 : decode cX3_init 7 = .ok (.newarray .int, 2) := by decide +kernel
theorem dX3_init_9 : decode cX3_init 9 = .ok (.putfield 9, 3) := by decide +kernel
theorem dX3_init_12 : decode cX3_init 12 = .ok (.return_, 1) := by decide +kernel
theorem dX3_append_0 : decode cX3_append 0 = .ok (.aload_n 0, 1) := by decide +kernel
theorem dX3_append_1 : decode cX3_append 1 = .ok (.getfield 15, 3) := by decide +kernel
theorem dX3_append_4 : decode cX3_append 4 = .ok (.bipush 120, 2) := by decide +kernel
theorem dX3_append_6 : decode cX3_append 6 = .ok (.if_icmp .ge 23, 3) := by decide +kernel
theorem dX3_append_9 : decode cX3_append 9 = .ok (.aload_n 0, 1) := by decide +kernel
theorem dX3_append_10 : decode cX3_append 10 = .ok (.getfield 9, 3) := by decide +kernel
theorem dX3_append_13 : decode cX3_append 13 = .ok (.aload_n 0, 1) := by decide +kernel
theorem dX3_append_14 : decode cX3_append 14 = .ok (.getfield 15, 3) := by decide +kernel
theorem dX3_append_17 : decode cX3_append 17 = .ok (.iload_n 1, 1) := by decide +kernel
theorem dX3_append_18 : decode cX3_append 18 = .ok (.iastore, 1) := by decide +kernel
theorem dX3_append_19 : decode cX3_append 19 = .ok (.aload_n 0, 1) := by decide +kernel
theorem dX3_append_20 : decode cX3_append 20 = .ok (.dup, 1) := by decide +kernel
theorem dX3_append_21 : decode cX3_append 21 = .ok (.getfield 15, 3) := by decide +kernel
theorem dX3_append_24 : decode cX3_append 24 = .ok (.iconst 1, 1) := by decide +kernel
theorem dX3_append_25 : decode cX3_append 25 = .ok (.iadd, 1) := by decide +kernel
theorem dX3_append_26 : decode cX3_append 26 = .ok (.putfield 15, 3) := by decide +kernel
theorem dX3_append_29 : decode cX3_append 29 = .ok (.return_, 1) := by decide +kernel
theorem dX3_readInto_0 : decode cX3_readInto 0 = .ok (.aload_n 0, 1) := by decide +kernel
theorem dX3_readInto_1 : decode cX3_readInto 1 = .ok (.iconst 0, 1) := by decide +kernel
theorem dX3_readInto_2 : decode cX3_readInto 2 = .ok (.putfield 19, 3) := by decide +kernel
theorem dX3_readInto_5 : decode cX3_readInto 5 = .ok (.aload_n 0, 1) := by decide +kernel
theorem dX3_readInto_6 : decode cX3_readInto 6 = .ok (.invokevirtual 22, 3) := by decide +kernel
theorem dX3_readInto_9 : decode cX3_readInto 9 = .ok (.iconst 1, 1) := by decide +kernel
theorem dX3_readInto_10 : decode cX3_readInto 10 = .ok (.istore_n 2, 1) := by decide +kernel
theorem dX3_readInto_11 : decode cX3_readInto 11 = .ok (.iload_n 2, 1) := by decide +kernel
theorem dX3_readInto_12 : decode cX3_readInto 12 = .ok (.bipush 120, 2) := by decide +kernel
theorem dX3_readInto_14 : decode cX3_readInto 14 = .ok (.if_icmp .gt 52, 3) := by decide +kernel
theorem dX3_readInto_17 : decode cX3_readInto 17 = .ok (.aload_n 0, 1) := by decide +kernel
theorem dX3_readInto_18 : decode cX3_readInto 18 = .ok (.aload_n 1, 1) := by decide +kernel
theorem dX3_readInto_19 : decode cX3_readInto 19 = .ok (.invokevirtual 25, 3) := by decide +kernel
theorem dX3_readInto_22 : decode cX3_readInto 22 = .ok (.ifCond .ne 10, 3) := by decide +kernel
theorem dX3_readInto_25 : decode cX3_readInto 25 = .ok (.iconst (-1), 1) := by decide +kernel
theorem dX3_readInto_26 : decode cX3_readInto 26 = .ok (.aload_n 0, 1) := by decide +kernel
theorem dX3_readInto_27 : decode cX3_readInto 27 = .ok (.getfield 29, 3) := by decide +kernel
theorem dX3_readInto_30 : decode cX3_readInto 30 = .ok (.isub, 1) := by decide +kernel
theorem dX3_readInto_31 : decode cX3_readInto 31 = .ok (.ireturn, 1) := by decide +kernel
theorem dX3_readInto_32 : decode cX3_readInto 32 = .ok (.aload_n 0, 1) := by decide +kernel
theorem dX3_readInto_33 : decode cX3_readInto 33 = .ok (.getfield 32, 3) := by decide +kernel
theorem dX3_readInto_36 : decode cX3_readInto 36 = .ok (.ifCond .ne 5, 3) := by decide +kernel
theorem dX3_readInto_39 : decode cX3_readInto 39 = .ok (.iload_n 2, 1) := by decide +kernel
theorem dX3_readInto_40 : decode cX3_readInto 40 = .ok (.ireturn, 1) := by decide +kernel
theorem dX3_readInto_41 : decode cX3_readInto 41 = .ok (.aload_n 0, 1) := by decide +kernel
theorem dX3_readInto_42 : decode cX3_readInto 42 = .ok (.getfield 32, 3) := by decide +kernel
theorem dX3_readInto_45 : decode cX3_readInto 45 = .ok (.iconst 3, 1) := by decide +kernel
theorem dX3_readInto_46 : decode cX3_readInto 46 = .ok (.if_icmp .eq 10, 3) := by decide +kernel
theorem dX3_readInto_49 : decode cX3_readInto 49 = .ok (.iconst (-1), 1) := by decide +kernel
theorem dX3_readInto_50 : decode cX3_readInto 50 = .ok (.aload_n 0, 1) := by decide +kernel
theorem dX3_readInto_51 : decode cX3_readInto 51 = .ok (.getfield 29, 3) := by decide +kernel
theorem dX3_readInto_54 : decode cX3_readInto 54 = .ok (.isub, 1) := by decide +kernel
theorem dX3_readInto_55 : decode cX3_readInto 55 = .ok (.ireturn, 1) := by decide +kernel
theorem dX3_readInto_56 : decode cX3_readInto 56 = .ok (.aload_n 0, 1) := by decide +kernel
theorem dX3_readInto_57 : decode cX3_readInto 57 = .ok (.invokevirtual 22, 3) := by decide +kernel
theorem dX3_readInto_60 : decode cX3_readInto 60 = .ok (.iinc 2 1, 3) := by decide +kernel
theorem dX3_readInto_63 : decode cX3_readInto 63 = .ok (.goto (-52), 3) := by decide +kernel
theorem dX3_readInto_66 : decode cX3_readInto 66 = .ok (.iconst (-1), 1) := by decide +kernel
theorem dX3_readInto_67 : decode cX3_readInto 67 = .ok (.aload_n 0, 1) := by decide +kernel
theorem dX3_readInto_68 : decode cX3_readInto 68 = .ok (.getfield 29, 3) := by decide +kernel
theorem dX3_readInto_71 : decode cX3_readInto 71 = .ok (.isub, 1) := by decide +kernel
theorem dX3_readInto_72 : decode cX3_readInto 72 = .ok (.ireturn, 1) := by decide +kernel
theorem dX3_readItem_0 : decode cX3_readItem 0 = .ok (.iconst 0, 1) := by decide +kernel
theorem dX3_readItem_1 : decode cX3_readItem 1 = .ok (.istore_n 2, 1) := by decide +kernel
theorem dX3_readItem_2 : decode cX3_readItem 2 = .ok (.iload_n 2, 1) := by decide +kernel
theorem dX3_readItem_3 : decode cX3_readItem 3 = .ok (.bipush 7, 2) := by decide +kernel
theorem dX3_readItem_5 : decode cX3_readItem 5 = .ok (.if_icmp .ge 27, 3) := by decide +kernel
theorem dX3_readItem_8 : decode cX3_readItem 8 = .ok (.aload_n 0, 1) := by decide +kernel
theorem dX3_readItem_9 : decode cX3_readItem 9 = .ok (.iload_n 2, 1) := by decide +kernel
theorem dX3_readItem_10 : decode cX3_readItem 10 = .ok (.invokestatic 35, 3) := by decide +kernel
theorem dX3_readItem_13 : decode cX3_readItem 13 = .ok (.invokevirtual 39, 3) := by decide +kernel
theorem dX3_readItem_16 : decode cX3_readItem 16 = .ok (.ifCond .eq 10, 3) := by decide +kernel
theorem dX3_readItem_19 : decode cX3_readItem 19 = .ok (.aload_n 0, 1) := by decide +kernel
theorem dX3_readItem_20 : decode cX3_readItem 20 = .ok (.aload_n 1, 1) := by decide +kernel
theorem dX3_readItem_21 : decode cX3_readItem 21 = .ok (.iload_n 2, 1) := by decide +kernel
theorem dX3_readItem_22 : decode cX3_readItem 22 = .ok (.invokevirtual 43, 3) := by decide +kernel
theorem dX3_readItem_25 : decode cX3_readItem 25 = .ok (.ireturn, 1) := by decide +kernel
theorem dX3_readItem_26 : decode cX3_readItem 26 = .ok (.iinc 2 1, 3) := by decide +kernel
theorem dX3_readItem_29 : decode cX3_readItem 29 = .ok (.goto (-27), 3) := by decide +kernel
theorem dX3_readItem_32 : decode cX3_readItem 32 = .ok (.iconst 0, 1) := by decide +kernel
theorem dX3_readItem_33 : decode cX3_readItem 33 = .ok (.istore_n 2, 1) := by decide +kernel
theorem dX3_readItem_34 : decode cX3_readItem 34 = .ok (.iload_n 2, 1) := by decide +kernel
theorem dX3_readItem_35 : decode cX3_readItem 35 = .ok (.iconst 4, 1) := by decide +kernel
theorem dX3_readItem_36 : decode cX3_readItem 36 = .ok (.if_icmp .ge 27, 3) := by decide +kernel
theorem dX3_readItem_39 : decode cX3_readItem 39 = .ok (.aload_n 0, 1) := by decide +kernel
theorem dX3_readItem_40 : decode cX3_readItem 40 = .ok (.iload_n 2, 1) := by decide +kernel
theorem dX3_readItem_41 : decode cX3_readItem 41 = .ok (.invokestatic 47, 3) := by decide +kernel
theorem dX3_readItem_44 : decode cX3_readItem 44 = .ok (.invokevirtual 39, 3) := by decide +kernel
theorem dX3_readItem_47 : decode cX3_readItem 47 = .ok (.ifCond .eq 10, 3) := by decide +kernel
theorem dX3_readItem_50 : decode cX3_readItem 50 = .ok (.aload_n 0, 1) := by decide +kernel
theorem dX3_readItem_51 : decode cX3_readItem 51 = .ok (.aload_n 1, 1) := by decide +kernel
theorem dX3_readItem_52 : decode cX3_readItem 52 = .ok (.iload_n 2, 1) := by decide +kernel
theorem dX3_readItem_53 : decode cX3_readItem 53 = .ok (.invokevirtual 50, 3) := by decide +kernel
theorem dX3_readItem_56 : decode cX3_readItem 56 = .ok (.ireturn, 1) := by decide +kernel
theorem dX3_readItem_57 : decode cX3_readItem 57 = .ok (.iinc 2 1, 3) := by decide +kernel
theorem dX3_readItem_60 : decode cX3_readItem 60 = .ok (.goto (-26), 3) := by decide +kernel
theorem dX3_readItem_63 : decode cX3_readItem 63 = .ok (.aload_n 0, 1) := by decide +kernel
theorem dX3_readItem_64 : decode cX3_readItem 64 = .ok (.ldc 53, 2) := by decide +kernel
theorem dX3_readItem_66 : decode cX3_readItem 66 = .ok (.invokevirtual 39, 3) := by decide +kernel
theorem dX3_readItem_69 : decode cX3_readItem 69 = .ok (.ifCond .eq 15, 3) := by decide +kernel
theorem dX3_readItem_72 : decode cX3_readItem 72 = .ok (.aload_n 0, 1) := by decide +kernel
theorem dX3_readItem_73 : decode cX3_readItem 73 = .ok (.aload_n 1, 1) := by decide +kernel
theorem dX3_readItem_74 : decode cX3_readItem 74 = .ok (.invokevirtual 55, 3) := by decide +kernel
theorem dX3_readItem_77 : decode cX3_readItem 77 = .ok (.ifCond .eq 7, 3) := by decide +kernel
theorem dX3_readItem_80 : decode cX3_readItem 80 = .ok (.iconst 1, 1) := by decide +kernel
theorem dX3_readItem_81 : decode cX3_readItem 81 = .ok (.goto 4, 3) := by decide +kernel
theorem dX3_readItem_84 : decode cX3_readItem 84 = .ok (.iconst 0, 1) := by decide +kernel
theorem dX3_readItem_85 : decode cX3_readItem 85 = .ok (.ireturn, 1) := by decide +kernel
theorem dX3_readResident_0 : decode cX3_readResident 0 = .ok (.aload_n 1, 1) := by decide +kernel
theorem dX3_readResident_1 : decode cX3_readResident 1 = .ok (.iload_n 2, 1) := by decide +kernel
theorem dX3_readResident_2 : decode cX3_readResident 2 = .ok (.invokevirtual 58, 3) := by decide +kernel
theorem dX3_readResident_5 : decode cX3_readResident 5 = .ok (.istore_n 3, 1) := by decide +kernel
theorem dX3_readResident_6 : decode cX3_readResident 6 = .ok (.iload_n 3, 1) := by decide +kernel
theorem dX3_readResident_7 : decode cX3_readResident 7 = .ok (.iconst (-1), 1) := by decide +kernel
theorem dX3_readResident_8 : decode cX3_readResident 8 = .ok (.if_icmp .ne 5, 3) := by decide +kernel
theorem dX3_readResident_11 : decode cX3_readResident 11 = .ok (.iconst 0, 1) := by decide +kernel
theorem dX3_readResident_12 : decode cX3_readResident 12 = .ok (.ireturn, 1) := by decide +kernel
theorem dX3_readResident_13 : decode cX3_readResident 13 = .ok (.aload_n 1, 1) := by decide +kernel
theorem dX3_readResident_14 : decode cX3_readResident 14 = .ok (.getfield 64, 3) := by decide +kernel
theorem dX3_readResident_17 : decode cX3_readResident 17 = .ok (.iload_n 3, 1) := by decide +kernel
theorem dX3_readResident_18 : decode cX3_readResident 18 = .ok (.aaload, 1) := by decide +kernel
theorem dX3_readResident_19 : decode cX3_readResident 19 = .ok (.astore 4, 2) := by decide +kernel
theorem dX3_readResident_21 : decode cX3_readResident 21 = .ok (.aload_n 0, 1) := by decide +kernel
theorem dX3_readResident_22 : decode cX3_readResident 22 = .ok (.invokevirtual 22, 3) := by decide +kernel
theorem dX3_readResident_25 : decode cX3_readResident 25 = .ok (.aload_n 0, 1) := by decide +kernel
theorem dX3_readResident_26 : decode cX3_readResident 26 = .ok (.aload 4, 2) := by decide +kernel
theorem dX3_readResident_28 : decode cX3_readResident 28 = .ok (.ldc 68, 2) := by decide +kernel
theorem dX3_readResident_30 : decode cX3_readResident 30 = .ok (.iconst 1, 1) := by decide +kernel
theorem dX3_readResident_31 : decode cX3_readResident 31 = .ok (.bipush 99, 2) := by decide +kernel
theorem dX3_readResident_33 : decode cX3_readResident 33 = .ok (.invokevirtual 70, 3) := by decide +kernel
theorem dX3_readResident_36 : decode cX3_readResident 36 = .ok (.ifCond .eq 37, 3) := by decide +kernel
theorem dX3_readResident_39 : decode cX3_readResident 39 = .ok (.aload_n 0, 1) := by decide +kernel
theorem dX3_readResident_40 : decode cX3_readResident 40 = .ok (.aload 4, 2) := by decide +kernel
theorem dX3_readResident_42 : decode cX3_readResident 42 = .ok (.ldc 74, 2) := by decide +kernel
theorem dX3_readResident_44 : decode cX3_readResident 44 = .ok (.iconst 2, 1) := by decide +kernel
theorem dX3_readResident_45 : decode cX3_readResident 45 = .ok (.iload_n 3, 1) := by decide +kernel
theorem dX3_readResident_46 : decode cX3_readResident 46 = .ok (.iconst 1, 1) := by decide +kernel
theorem dX3_readResident_47 : decode cX3_readResident 47 = .ok (.isub, 1) := by decide +kernel
theorem dX3_readResident_48 : decode cX3_readResident 48 = .ok (.invokevirtual 70, 3) := by decide +kernel
theorem dX3_readResident_51 : decode cX3_readResident 51 = .ok (.ifCond .eq 22, 3) := by decide +kernel
theorem dX3_readResident_54 : decode cX3_readResident 54 = .ok (.aload_n 0, 1) := by decide +kernel
theorem dX3_readResident_55 : decode cX3_readResident 55 = .ok (.aload 4, 2) := by decide +kernel
theorem dX3_readResident_57 : decode cX3_readResident 57 = .ok (.ldc 76, 2) := by decide +kernel
theorem dX3_readResident_59 : decode cX3_readResident 59 = .ok (.iconst 3, 1) := by decide +kernel
theorem dX3_readResident_60 : decode cX3_readResident 60 = .ok (.sipush 9999, 3) := by decide +kernel
theorem dX3_readResident_63 : decode cX3_readResident 63 = .ok (.invokevirtual 70, 3) := by decide +kernel
theorem dX3_readResident_66 : decode cX3_readResident 66 = .ok (.ifCond .eq 7, 3) := by decide +kernel
theorem dX3_readResident_69 : decode cX3_readResident 69 = .ok (.iconst 1, 1) := by decide +kernel
theorem dX3_readResident_70 : decode cX3_readResident 70 = .ok (.goto 4, 3) := by decide +kernel
theorem dX3_readResident_73 : decode cX3_readResident 73 = .ok (.iconst 0, 1) := by decide +kernel
theorem dX3_readResident_74 : decode cX3_readResident 74 = .ok (.ireturn, 1) := by decide +kernel
theorem dX3_readFact_0 : decode cX3_readFact 0 = .ok (.aload_n 0, 1) := by decide +kernel
theorem dX3_readFact_1 : decode cX3_readFact 1 = .ok (.aload_n 2, 1) := by decide +kernel
theorem dX3_readFact_2 : decode cX3_readFact 2 = .ok (.invokevirtual 39, 3) := by decide +kernel
theorem dX3_readFact_5 : decode cX3_readFact 5 = .ok (.ifCond .ne 5, 3) := by decide +kernel
theorem dX3_readFact_8 : decode cX3_readFact 8 = .ok (.iconst 1, 1) := by decide +kernel
theorem dX3_readFact_9 : decode cX3_readFact 9 = .ok (.ireturn, 1) := by decide +kernel
theorem dX3_readFact_10 : decode cX3_readFact 10 = .ok (.aload_n 0, 1) := by decide +kernel
theorem dX3_readFact_11 : decode cX3_readFact 11 = .ok (.invokevirtual 22, 3) := by decide +kernel
theorem dX3_readFact_14 : decode cX3_readFact 14 = .ok (.aload_n 0, 1) := by decide +kernel
theorem dX3_readFact_15 : decode cX3_readFact 15 = .ok (.iconst 0, 1) := by decide +kernel
theorem dX3_readFact_16 : decode cX3_readFact 16 = .ok (.iload 4, 2) := by decide +kernel
theorem dX3_readFact_18 : decode cX3_readFact 18 = .ok (.invokevirtual 78, 3) := by decide +kernel
theorem dX3_readFact_21 : decode cX3_readFact 21 = .ok (.ifCond .ne 5, 3) := by decide +kernel
theorem dX3_readFact_24 : decode cX3_readFact 24 = .ok (.iconst 0, 1) := by decide +kernel
theorem dX3_readFact_25 : decode cX3_readFact 25 = .ok (.ireturn, 1) := by decide +kernel
theorem dX3_readFact_26 : decode cX3_readFact 26 = .ok (.aload_n 1, 1) := by decide +kernel
theorem dX3_readFact_27 : decode cX3_readFact 27 = .ok (.iload_n 3, 1) := by decide +kernel
theorem dX3_readFact_28 : decode cX3_readFact 28 = .ok (.aload_n 0, 1) := by decide +kernel
theorem dX3_readFact_29 : decode cX3_readFact 29 = .ok (.getfield 82, 3) := by decide +kernel
theorem dX3_readFact_32 : decode cX3_readFact 32 = .ok (.invokevirtual 85, 3) := by decide +kernel
theorem dX3_readFact_35 : decode cX3_readFact 35 = .ok (.aload_n 0, 1) := by decide +kernel
theorem dX3_readFact_36 : decode cX3_readFact 36 = .ok (.invokevirtual 22, 3) := by decide +kernel
theorem dX3_readFact_39 : decode cX3_readFact 39 = .ok (.iconst 1, 1) := by decide +kernel
theorem dX3_readFact_40 : decode cX3_readFact 40 = .ok (.ireturn, 1) := by decide +kernel
theorem dX3_readSetting_0 : decode cX3_readSetting 0 = .ok (.aload_n 0, 1) := by decide +kernel
theorem dX3_readSetting_1 : decode cX3_readSetting 1 = .ok (.invokevirtual 22, 3) := by decide +kernel
theorem dX3_readSetting_4 : decode cX3_readSetting 4 = .ok (.aload_n 0, 1) := by decide +kernel
theorem dX3_readSetting_5 : decode cX3_readSetting 5 = .ok (.iload_n 2, 1) := by decide +kernel
theorem dX3_readSetting_6 : decode cX3_readSetting 6 = .ok (.invokestatic 91, 3) := by decide +kernel
theorem dX3_readSetting_9 : decode cX3_readSetting 9 = .ok (.iload_n 2, 1) := by decide +kernel
theorem dX3_readSetting_10 : decode cX3_readSetting 10 = .ok (.invokestatic 94, 3) := by decide +kernel
theorem dX3_readSetting_13 : decode cX3_readSetting 13 = .ok (.invokevirtual 78, 3) := by decide +kernel
theorem dX3_readSetting_16 : decode cX3_readSetting 16 = .ok (.ifCond .ne 5, 3) := by decide +kernel
theorem dX3_readSetting_19 : decode cX3_readSetting 19 = .ok (.iconst 0, 1) := by decide +kernel
theorem dX3_readSetting_20 : decode cX3_readSetting 20 = .ok (.ireturn, 1) := by decide +kernel
theorem dX3_readSetting_21 : decode cX3_readSetting 21 = .ok (.aload_n 1, 1) := by decide +kernel
theorem dX3_readSetting_22 : decode cX3_readSetting 22 = .ok (.getfield 97, 3) := by decide +kernel
theorem dX3_readSetting_25 : decode cX3_readSetting 25 = .ok (.iload_n 2, 1) := by decide +kernel
theorem dX3_readSetting_26 : decode cX3_readSetting 26 = .ok (.aload_n 0, 1) := by decide +kernel
theorem dX3_readSetting_27 : decode cX3_readSetting 27 = .ok (.getfield 82, 3) := by decide +kernel
theorem dX3_readSetting_30 : decode cX3_readSetting 30 = .ok (.iastore, 1) := by decide +kernel
theorem dX3_readSetting_31 : decode cX3_readSetting 31 = .ok (.aload_n 0, 1) := by decide +kernel
theorem dX3_readSetting_32 : decode cX3_readSetting 32 = .ok (.invokevirtual 22, 3) := by decide +kernel
theorem dX3_readSetting_35 : decode cX3_readSetting 35 = .ok (.iconst 1, 1) := by decide +kernel
theorem dX3_readSetting_36 : decode cX3_readSetting 36 = .ok (.ireturn, 1) := by decide +kernel
theorem dX3_readVisits_0 : decode cX3_readVisits 0 = .ok (.aload_n 0, 1) := by decide +kernel
theorem dX3_readVisits_1 : decode cX3_readVisits 1 = .ok (.invokevirtual 22, 3) := by decide +kernel
theorem dX3_readVisits_4 : decode cX3_readVisits 4 = .ok (.aload_n 0, 1) := by decide +kernel
theorem dX3_readVisits_5 : decode cX3_readVisits 5 = .ok (.iconst 0, 1) := by decide +kernel
theorem dX3_readVisits_6 : decode cX3_readVisits 6 = .ok (.iconst 5, 1) := by decide +kernel
theorem dX3_readVisits_7 : decode cX3_readVisits 7 = .ok (.invokevirtual 78, 3) := by decide +kernel
theorem dX3_readVisits_10 : decode cX3_readVisits 10 = .ok (.ifCond .ne 5, 3) := by decide +kernel
theorem dX3_readVisits_13 : decode cX3_readVisits 13 = .ok (.iconst 0, 1) := by decide +kernel
theorem dX3_readVisits_14 : decode cX3_readVisits 14 = .ok (.ireturn, 1) := by decide +kernel
theorem dX3_readVisits_15 : decode cX3_readVisits 15 = .ok (.aload_n 0, 1) := by decide +kernel
theorem dX3_readVisits_16 : decode cX3_readVisits 16 = .ok (.getfield 82, 3) := by decide +kernel
theorem dX3_readVisits_19 : decode cX3_readVisits 19 = .ok (.istore_n 2, 1) := by decide +kernel
theorem dX3_readVisits_20 : decode cX3_readVisits 20 = .ok (.aload_n 0, 1) := by decide +kernel
theorem dX3_readVisits_21 : decode cX3_readVisits 21 = .ok (.invokevirtual 22, 3) := by decide +kernel
theorem dX3_readVisits_24 : decode cX3_readVisits 24 = .ok (.aload_n 0, 1) := by decide +kernel
theorem dX3_readVisits_25 : decode cX3_readVisits 25 = .ok (.iconst 0, 1) := by decide +kernel
theorem dX3_readVisits_26 : decode cX3_readVisits 26 = .ok (.sipush 255, 3) := by decide +kernel
theorem dX3_readVisits_29 : decode cX3_readVisits 29 = .ok (.invokevirtual 78, 3) := by decide +kernel
theorem dX3_readVisits_32 : decode cX3_readVisits 32 = .ok (.ifCond .ne 5, 3) := by decide +kernel
theorem dX3_readVisits_35 : decode cX3_readVisits 35 = .ok (.iconst 0, 1) := by decide +kernel
theorem dX3_readVisits_36 : decode cX3_readVisits 36 = .ok (.ireturn, 1) := by decide +kernel
theorem dX3_readVisits_37 : decode cX3_readVisits 37 = .ok (.aload_n 1, 1) := by decide +kernel
theorem dX3_readVisits_38 : decode cX3_readVisits 38 = .ok (.getfield 100, 3) := by decide +kernel
theorem dX3_readVisits_41 : decode cX3_readVisits 41 = .ok (.iload_n 2, 1) := by decide +kernel
theorem dX3_readVisits_42 : decode cX3_readVisits 42 = .ok (.aload_n 0, 1) := by decide +kernel
theorem dX3_readVisits_43 : decode cX3_readVisits 43 = .ok (.getfield 82, 3) := by decide +kernel
theorem dX3_readVisits_46 : decode cX3_readVisits 46 = .ok (.iastore, 1) := by decide +kernel
theorem dX3_readVisits_47 : decode cX3_readVisits 47 = .ok (.aload_n 0, 1) := by decide +kernel
theorem dX3_readVisits_48 : decode cX3_readVisits 48 = .ok (.invokevirtual 22, 3) := by decide +kernel
theorem dX3_readVisits_51 : decode cX3_readVisits 51 = .ok (.iconst 1, 1) := by decide +kernel
theorem dX3_readVisits_52 : decode cX3_readVisits 52 = .ok (.ireturn, 1) := by decide +kernel
theorem dX3_step_0 : decode cX3_step 0 = .ok (.aload_n 0, 1) := by decide +kernel
theorem dX3_step_1 : decode cX3_step 1 = .ok (.aload_n 0, 1) := by decide +kernel
theorem dX3_step_2 : decode cX3_step 2 = .ok (.getfield 19, 3) := by decide +kernel
theorem dX3_step_5 : decode cX3_step 5 = .ok (.putfield 29, 3) := by decide +kernel
theorem dX3_step_8 : decode cX3_step 8 = .ok (.aload_n 0, 1) := by decide +kernel
theorem dX3_step_9 : decode cX3_step 9 = .ok (.getfield 29, 3) := by decide +kernel
theorem dX3_step_12 : decode cX3_step 12 = .ok (.aload_n 0, 1) := by decide +kernel
theorem dX3_step_13 : decode cX3_step 13 = .ok (.getfield 15, 3) := by decide +kernel
theorem dX3_step_16 : decode cX3_step 16 = .ok (.if_icmp .ge 30, 3) := by decide +kernel
theorem dX3_step_19 : decode cX3_step 19 = .ok (.aload_n 0, 1) := by decide +kernel
theorem dX3_step_20 : decode cX3_step 20 = .ok (.getfield 9, 3) := by decide +kernel
theorem dX3_step_23 : decode cX3_step 23 = .ok (.aload_n 0, 1) := by decide +kernel
theorem dX3_step_24 : decode cX3_step 24 = .ok (.getfield 29, 3) := by decide +kernel
theorem dX3_step_27 : decode cX3_step 27 = .ok (.iaload, 1) := by decide +kernel
theorem dX3_step_28 : decode cX3_step 28 = .ok (.bipush 32, 2) := by decide +kernel
theorem dX3_step_30 : decode cX3_step 30 = .ok (.if_icmp .ne 16, 3) := by decide +kernel
theorem dX3_step_33 : decode cX3_step 33 = .ok (.aload_n 0, 1) := by decide +kernel
theorem dX3_step_34 : decode cX3_step 34 = .ok (.dup, 1) := by decide +kernel
theorem dX3_step_35 : decode cX3_step 35 = .ok (.getfield 29, 3) := by decide +kernel
theorem dX3_step_38 : decode cX3_step 38 = .ok (.iconst 1, 1) := by decide +kernel
theorem dX3_step_39 : decode cX3_step 39 = .ok (.iadd, 1) := by decide +kernel
theorem dX3_step_40 : decode cX3_step 40 = .ok (.putfield 29, 3) := by decide +kernel
theorem dX3_step_43 : decode cX3_step 43 = .ok (.goto (-35), 3) := by decide +kernel
theorem dX3_step_46 : decode cX3_step 46 = .ok (.aload_n 0, 1) := by decide +kernel
theorem dX3_step_47 : decode cX3_step 47 = .ok (.aload_n 0, 1) := by decide +kernel
theorem dX3_step_48 : decode cX3_step 48 = .ok (.getfield 29, 3) := by decide +kernel
theorem dX3_step_51 : decode cX3_step 51 = .ok (.aload_n 0, 1) := by decide +kernel
theorem dX3_step_52 : decode cX3_step 52 = .ok (.getfield 15, 3) := by decide +kernel
theorem dX3_step_55 : decode cX3_step 55 = .ok (.if_icmp .ge 18, 3) := by decide +kernel
theorem dX3_step_58 : decode cX3_step 58 = .ok (.aload_n 0, 1) := by decide +kernel
theorem dX3_step_59 : decode cX3_step 59 = .ok (.getfield 9, 3) := by decide +kernel
theorem dX3_step_62 : decode cX3_step 62 = .ok (.aload_n 0, 1) := by decide +kernel
theorem dX3_step_63 : decode cX3_step 63 = .ok (.getfield 29, 3) := by decide +kernel
theorem dX3_step_66 : decode cX3_step 66 = .ok (.iaload, 1) := by decide +kernel
theorem dX3_step_67 : decode cX3_step 67 = .ok (.invokestatic 103, 3) := by decide +kernel
theorem dX3_step_70 : decode cX3_step 70 = .ok (.goto 4, 3) := by decide +kernel
theorem dX3_step_73 : decode cX3_step 73 = .ok (.iconst 0, 1) := by decide +kernel
theorem dX3_step_74 : decode cX3_step 74 = .ok (.putfield 32, 3) := by decide +kernel
theorem dX3_step_77 : decode cX3_step 77 = .ok (.aload_n 0, 1) := by decide +kernel
theorem dX3_step_78 : decode cX3_step 78 = .ok (.aload_n 0, 1) := by decide +kernel
theorem dX3_step_79 : decode cX3_step 79 = .ok (.getfield 32, 3) := by decide +kernel
theorem dX3_step_82 : decode cX3_step 82 = .ok (.iconst 3, 1) := by decide +kernel
theorem dX3_step_83 : decode cX3_step 83 = .ok (.if_icmp .ne 12, 3) := by decide +kernel
theorem dX3_step_86 : decode cX3_step 86 = .ok (.aload_n 0, 1) := by decide +kernel
theorem dX3_step_87 : decode cX3_step 87 = .ok (.getfield 29, 3) := by decide +kernel
theorem dX3_step_90 : decode cX3_step 90 = .ok (.iconst 1, 1) := by decide +kernel
theorem dX3_step_91 : decode cX3_step 91 = .ok (.iadd, 1) := by decide +kernel
theorem dX3_step_92 : decode cX3_step 92 = .ok (.goto 7, 3) := by decide +kernel
theorem dX3_step_95 : decode cX3_step 95 = .ok (.aload_n 0, 1) := by decide +kernel
theorem dX3_step_96 : decode cX3_step 96 = .ok (.getfield 29, 3) := by decide +kernel
theorem dX3_step_99 : decode cX3_step 99 = .ok (.putfield 19, 3) := by decide +kernel
theorem dX3_step_102 : decode cX3_step 102 = .ok (.aload_n 0, 1) := by decide +kernel
theorem dX3_step_103 : decode cX3_step 103 = .ok (.iconst 0, 1) := by decide +kernel
theorem dX3_step_104 : decode cX3_step 104 = .ok (.putfield 82, 3) := by decide +kernel
theorem dX3_step_107 : decode cX3_step 107 = .ok (.aload_n 0, 1) := by decide +kernel
theorem dX3_step_108 : decode cX3_step 108 = .ok (.getfield 32, 3) := by decide +kernel
theorem dX3_step_111 : decode cX3_step 111 = .ok (.iconst 3, 1) := by decide +kernel
theorem dX3_step_112 : decode cX3_step 112 = .ok (.if_icmp .eq 84, 3) := by decide +kernel
theorem dX3_step_115 : decode cX3_step 115 = .ok (.aload_n 0, 1) := by decide +kernel
theorem dX3_step_116 : decode cX3_step 116 = .ok (.getfield 19, 3) := by decide +kernel
theorem dX3_step_119 : decode cX3_step 119 = .ok (.aload_n 0, 1) := by decide +kernel
theorem dX3_step_120 : decode cX3_step 120 = .ok (.getfield 15, 3) := by decide +kernel
theorem dX3_step_123 : decode cX3_step 123 = .ok (.if_icmp .ge 73, 3) := by decide +kernel
theorem dX3_step_126 : decode cX3_step 126 = .ok (.aload_n 0, 1) := by decide +kernel
theorem dX3_step_127 : decode cX3_step 127 = .ok (.getfield 9, 3) := by decide +kernel
theorem dX3_step_130 : decode cX3_step 130 = .ok (.aload_n 0, 1) := by decide +kernel
theorem dX3_step_131 : decode cX3_step 131 = .ok (.getfield 19, 3) := by decide +kernel
theorem dX3_step_134 : decode cX3_step 134 = .ok (.iaload, 1) := by decide +kernel
theorem dX3_step_135 : decode cX3_step 135 = .ok (.invokestatic 103, 3) := by decide +kernel
theorem dX3_step_138 : decode cX3_step 138 = .ok (.aload_n 0, 1) := by decide +kernel
theorem dX3_step_139 : decode cX3_step 139 = .ok (.getfield 32, 3) := by decide +kernel
theorem dX3_step_142 : decode cX3_step 142 = .ok (.if_icmp .ne 54, 3) := by decide +kernel
theorem dX3_step_145 : decode cX3_step 145 = .ok (.aload_n 0, 1) := by decide +kernel
theorem dX3_step_146 : decode cX3_step 146 = .ok (.getfield 32, 3) := by decide +kernel
theorem dX3_step_149 : decode cX3_step 149 = .ok (.iconst 2, 1) := by decide +kernel
theorem dX3_step_150 : decode cX3_step 150 = .ok (.if_icmp .ne 33, 3) := by decide +kernel
theorem dX3_step_153 : decode cX3_step 153 = .ok (.aload_n 0, 1) := by decide +kernel
theorem dX3_step_154 : decode cX3_step 154 = .ok (.sipush 10000, 3) := by decide +kernel
theorem dX3_step_157 : decode cX3_step 157 = .ok (.aload_n 0, 1) := by decide +kernel
theorem dX3_step_158 : decode cX3_step 158 = .ok (.getfield 82, 3) := by decide +kernel
theorem dX3_step_161 : decode cX3_step 161 = .ok (.bipush 10, 2) := by decide +kernel
theorem dX3_step_163 : decode cX3_step 163 = .ok (.imul, 1) := by decide +kernel
theorem dX3_step_164 : decode cX3_step 164 = .ok (.aload_n 0, 1) := by decide +kernel
theorem dX3_step_165 : decode cX3_step 165 = .ok (.getfield 9, 3) := by decide +kernel
theorem dX3_step_168 : decode cX3_step 168 = .ok (.aload_n 0, 1) := by decide +kernel
theorem dX3_step_169 : decode cX3_step 169 = .ok (.getfield 19, 3) := by decide +kernel
theorem dX3_step_172 : decode cX3_step 172 = .ok (.iaload, 1) := by decide +kernel
theorem dX3_step_173 : decode cX3_step 173 = .ok (.iadd, 1) := by decide +kernel
theorem dX3_step_174 : decode cX3_step 174 = .ok (.bipush 48, 2) := by decide +kernel
theorem dX3_step_176 : decode cX3_step 176 = .ok (.isub, 1) := by decide +kernel
theorem dX3_step_177 : decode cX3_step 177 = .ok (.invokestatic 106, 3) := by decide +kernel
theorem dX3_step_180 : decode cX3_step 180 = .ok (.putfield 82, 3) := by decide +kernel
theorem dX3_step_183 : decode cX3_step 183 = .ok (.aload_n 0, 1) := by decide +kernel
theorem dX3_step_184 : decode cX3_step 184 = .ok (.dup, 1) := by decide +kernel
theorem dX3_step_185 : decode cX3_step 185 = .ok (.getfield 19, 3) := by decide +kernel
theorem dX3_step_188 : decode cX3_step 188 = .ok (.iconst 1, 1) := by decide +kernel
theorem dX3_step_189 : decode cX3_step 189 = .ok (.iadd, 1) := by decide +kernel
theorem dX3_step_190 : decode cX3_step 190 = .ok (.putfield 19, 3) := by decide +kernel
theorem dX3_step_193 : decode cX3_step 193 = .ok (.goto (-86), 3) := by decide +kernel
theorem dX3_step_196 : decode cX3_step 196 = .ok (.return_, 1) := by decide +kernel
theorem dX3_isWord_0 : decode cX3_isWord 0 = .ok (.aload_n 0, 1) := by decide +kernel
theorem dX3_isWord_1 : decode cX3_isWord 1 = .ok (.getfield 32, 3) := by decide +kernel
theorem dX3_isWord_4 : decode cX3_isWord 4 = .ok (.iconst 1, 1) := by decide +kernel
theorem dX3_isWord_5 : decode cX3_isWord 5 = .ok (.if_icmp .ne 19, 3) := by decide +kernel
theorem dX3_isWord_8 : decode cX3_isWord 8 = .ok (.aload_n 0, 1) := by decide +kernel
theorem dX3_isWord_9 : decode cX3_isWord 9 = .ok (.getfield 19, 3) := by decide +kernel
theorem dX3_isWord_12 : decode cX3_isWord 12 = .ok (.aload_n 0, 1) := by decide +kernel
theorem dX3_isWord_13 : decode cX3_isWord 13 = .ok (.getfield 29, 3) := by decide +kernel
theorem dX3_isWord_16 : decode cX3_isWord 16 = .ok (.isub, 1) := by decide +kernel
theorem dX3_isWord_17 : decode cX3_isWord 17 = .ok (.aload_n 1, 1) := by decide +kernel
theorem dX3_isWord_18 : decode cX3_isWord 18 = .ok (.invokevirtual 112, 3) := by decide +kernel
theorem dX3_isWord_21 : decode cX3_isWord 21 = .ok (.if_icmp .eq 5, 3) := by decide +kernel
theorem dX3_isWord_24 : decode cX3_isWord 24 = .ok (.iconst 0, 1) := by decide +kernel
theorem dX3_isWord_25 : decode cX3_isWord 25 = .ok (.ireturn, 1) := by decide +kernel
theorem dX3_isWord_26 : decode cX3_isWord 26 = .ok (.iconst 0, 1) := by decide +kernel
theorem dX3_isWord_27 : decode cX3_isWord 27 = .ok (.istore_n 2, 1) := by decide +kernel
theorem dX3_isWord_28 : decode cX3_isWord 28 = .ok (.iload_n 2, 1) := by decide +kernel
theorem dX3_isWord_29 : decode cX3_isWord 29 = .ok (.aload_n 1, 1) := by decide +kernel
theorem dX3_isWord_30 : decode cX3_isWord 30 = .ok (.invokevirtual 112, 3) := by decide +kernel
theorem dX3_isWord_33 : decode cX3_isWord 33 = .ok (.if_icmp .ge 30, 3) := by decide +kernel
theorem dX3_isWord_36 : decode cX3_isWord 36 = .ok (.aload_n 0, 1) := by decide +kernel
theorem dX3_isWord_37 : decode cX3_isWord 37 = .ok (.getfield 9, 3) := by decide +kernel
theorem dX3_isWord_40 : decode cX3_isWord 40 = .ok (.aload_n 0, 1) := by decide +kernel
theorem dX3_isWord_41 : decode cX3_isWord 41 = .ok (.getfield 29, 3) := by decide +kernel
theorem dX3_isWord_44 : decode cX3_isWord 44 = .ok (.iload_n 2, 1) := by decide +kernel
theorem dX3_isWord_45 : decode cX3_isWord 45 = .ok (.iadd, 1) := by decide +kernel
theorem dX3_isWord_46 : decode cX3_isWord 46 = .ok (.iaload, 1) := by decide +kernel
theorem dX3_isWord_47 : decode cX3_isWord 47 = .ok (.aload_n 1, 1) := by decide +kernel
theorem dX3_isWord_48 : decode cX3_isWord 48 = .ok (.iload_n 2, 1) := by decide +kernel
theorem dX3_isWord_49 : decode cX3_isWord 49 = .ok (.invokevirtual 117, 3) := by decide +kernel
theorem dX3_isWord_52 : decode cX3_isWord 52 = .ok (.if_icmp .eq 5, 3) := by decide +kernel
theorem dX3_isWord_55 : decode cX3_isWord 55 = .ok (.iconst 0, 1) := by decide +kernel
theorem dX3_isWord_56 : decode cX3_isWord 56 = .ok (.ireturn, 1) := by decide +kernel
theorem dX3_isWord_57 : decode cX3_isWord 57 = .ok (.iinc 2 1, 3) := by decide +kernel
theorem dX3_isWord_60 : decode cX3_isWord 60 = .ok (.goto (-32), 3) := by decide +kernel
theorem dX3_isWord_63 : decode cX3_isWord 63 = .ok (.iconst 1, 1) := by decide +kernel
theorem dX3_isWord_64 : decode cX3_isWord 64 = .ok (.ireturn, 1) := by decide +kernel
theorem dX3_isNumber_0 : decode cX3_isNumber 0 = .ok (.aload_n 0, 1) := by decide +kernel
theorem dX3_isNumber_1 : decode cX3_isNumber 1 = .ok (.getfield 32, 3) := by decide +kernel
theorem dX3_isNumber_4 : decode cX3_isNumber 4 = .ok (.iconst 2, 1) := by decide +kernel
theorem dX3_isNumber_5 : decode cX3_isNumber 5 = .ok (.if_icmp .ne 19, 3) := by decide +kernel
theorem dX3_isNumber_8 : decode cX3_isNumber 8 = .ok (.aload_n 0, 1) := by decide +kernel
theorem dX3_isNumber_9 : decode cX3_isNumber 9 = .ok (.getfield 82, 3) := by decide +kernel
theorem dX3_isNumber_12 : decode cX3_isNumber 12 = .ok (.iload_n 1, 1) := by decide +kernel
theorem dX3_isNumber_13 : decode cX3_isNumber 13 = .ok (.iload_n 2, 1) := by decide +kernel
theorem dX3_isNumber_14 : decode cX3_isNumber 14 = .ok (.invokestatic 121, 3) := by decide +kernel
theorem dX3_isNumber_17 : decode cX3_isNumber 17 = .ok (.ifCond .eq 7, 3) := by decide +kernel
theorem dX3_isNumber_20 : decode cX3_isNumber 20 = .ok (.iconst 1, 1) := by decide +kernel
theorem dX3_isNumber_21 : decode cX3_isNumber 21 = .ok (.goto 4, 3) := by decide +kernel
theorem dX3_isNumber_24 : decode cX3_isNumber 24 = .ok (.iconst 0, 1) := by decide +kernel
theorem dX3_isNumber_25 : decode cX3_isNumber 25 = .ok (.ireturn, 1) := by decide +kernel
theorem dX3_tokenOf_0 : decode cX3_tokenOf 0 = .ok (.iload_n 0, 1) := by decide +kernel
theorem dX3_tokenOf_1 : decode cX3_tokenOf 1 = .ok (.bipush 97, 2) := by decide +kernel
theorem dX3_tokenOf_3 : decode cX3_tokenOf 3 = .ok (.if_icmp .lt 11, 3) := by decide +kernel
theorem dX3_tokenOf_6 : decode cX3_tokenOf 6 = .ok (.iload_n 0, 1) := by decide +kernel
theorem dX3_tokenOf_7 : decode cX3_tokenOf 7 = .ok (.bipush 122, 2) := by decide +kernel
theorem dX3_tokenOf_9 : decode cX3_tokenOf 9 = .ok (.if_icmp .gt 5, 3) := by decide +kernel
theorem dX3_tokenOf_12 : decode cX3_tokenOf 12 = .ok (.iconst 1, 1) := by decide +kernel
theorem dX3_tokenOf_13 : decode cX3_tokenOf 13 = .ok (.ireturn, 1) := by decide +kernel
theorem dX3_tokenOf_14 : decode cX3_tokenOf 14 = .ok (.iload_n 0, 1) := by decide +kernel
theorem dX3_tokenOf_15 : decode cX3_tokenOf 15 = .ok (.bipush 48, 2) := by decide +kernel
theorem dX3_tokenOf_17 : decode cX3_tokenOf 17 = .ok (.if_icmp .lt 11, 3) := by decide +kernel
theorem dX3_tokenOf_20 : decode cX3_tokenOf 20 = .ok (.iload_n 0, 1) := by decide +kernel
theorem dX3_tokenOf_21 : decode cX3_tokenOf 21 = .ok (.bipush 57, 2) := by decide +kernel
theorem dX3_tokenOf_23 : decode cX3_tokenOf 23 = .ok (.if_icmp .gt 5, 3) := by decide +kernel
theorem dX3_tokenOf_26 : decode cX3_tokenOf 26 = .ok (.iconst 2, 1) := by decide +kernel
theorem dX3_tokenOf_27 : decode cX3_tokenOf 27 = .ok (.ireturn, 1) := by decide +kernel
theorem dX3_tokenOf_28 : decode cX3_tokenOf 28 = .ok (.iload_n 0, 1) := by decide +kernel
theorem dX3_tokenOf_29 : decode cX3_tokenOf 29 = .ok (.bipush 59, 2) := by decide +kernel
theorem dX3_tokenOf_31 : decode cX3_tokenOf 31 = .ok (.if_icmp .ne 7, 3) := by decide +kernel
theorem dX3_tokenOf_34 : decode cX3_tokenOf 34 = .ok (.iconst 3, 1) := by decide +kernel
theorem dX3_tokenOf_35 : decode cX3_tokenOf 35 = .ok (.goto 4, 3) := by decide +kernel
theorem dX3_tokenOf_38 : decode cX3_tokenOf 38 = .ok (.iconst 4, 1) := by decide +kernel
theorem dX3_tokenOf_39 : decode cX3_tokenOf 39 = .ok (.ireturn, 1) := by decide +kernel
theorem dX3_kindWord_0 : decode cX3_kindWord 0 = .ok (.iload_n 0, 1) := by decide +kernel
theorem dX3_kindWord_1 : decode cX3_kindWord 1 = .ok (.tableswitch 57 1 6 #[39, 42, 45, 48, 51, 54], 39) := by decide +kernel
theorem dX3_kindWord_40 : decode cX3_kindWord 40 = .ok (.ldc 125, 2) := by decide +kernel
theorem dX3_kindWord_42 : decode cX3_kindWord 42 = .ok (.areturn, 1) := by decide +kernel
theorem dX3_kindWord_43 : decode cX3_kindWord 43 = .ok (.ldc 127, 2) := by decide +kernel
theorem dX3_kindWord_45 : decode cX3_kindWord 45 = .ok (.areturn, 1) := by decide +kernel
theorem dX3_kindWord_46 : decode cX3_kindWord 46 = .ok (.ldc 129, 2) := by decide +kernel
theorem dX3_kindWord_48 : decode cX3_kindWord 48 = .ok (.areturn, 1) := by decide +kernel
theorem dX3_kindWord_49 : decode cX3_kindWord 49 = .ok (.ldc 131, 2) := by decide +kernel
theorem dX3_kindWord_51 : decode cX3_kindWord 51 = .ok (.areturn, 1) := by decide +kernel
theorem dX3_kindWord_52 : decode cX3_kindWord 52 = .ok (.ldc 133, 2) := by decide +kernel
theorem dX3_kindWord_54 : decode cX3_kindWord 54 = .ok (.areturn, 1) := by decide +kernel
theorem dX3_kindWord_55 : decode cX3_kindWord 55 = .ok (.ldc 135, 2) := by decide +kernel
theorem dX3_kindWord_57 : decode cX3_kindWord 57 = .ok (.areturn, 1) := by decide +kernel
theorem dX3_kindWord_58 : decode cX3_kindWord 58 = .ok (.ldc 137, 2) := by decide +kernel
theorem dX3_kindWord_60 : decode cX3_kindWord 60 = .ok (.areturn, 1) := by decide +kernel
theorem dX3_settingWord_0 : decode cX3_settingWord 0 = .ok (.iload_n 0, 1) := by decide +kernel
theorem dX3_settingWord_1 : decode cX3_settingWord 1 = .ok (.tableswitch 36 0 2 #[27, 30, 33], 27) := by decide +kernel
theorem dX3_settingWord_28 : decode cX3_settingWord 28 = .ok (.ldc 139, 2) := by decide +kernel
theorem dX3_settingWord_30 : decode cX3_settingWord 30 = .ok (.areturn, 1) := by decide +kernel
theorem dX3_settingWord_31 : decode cX3_settingWord 31 = .ok (.ldc 141, 2) := by decide +kernel
theorem dX3_settingWord_33 : decode cX3_settingWord 33 = .ok (.areturn, 1) := by decide +kernel
theorem dX3_settingWord_34 : decode cX3_settingWord 34 = .ok (.ldc 143, 2) := by decide +kernel
theorem dX3_settingWord_36 : decode cX3_settingWord 36 = .ok (.areturn, 1) := by decide +kernel
theorem dX3_settingWord_37 : decode cX3_settingWord 37 = .ok (.ldc 145, 2) := by decide +kernel
theorem dX3_settingWord_39 : decode cX3_settingWord 39 = .ok (.areturn, 1) := by decide +kernel
theorem dJ6_bitCount_0f7a4_0 : decode cJ6_bitCount_0f7a4 0 = .ok (.iload_n 0, 1) := by decide +kernel
theorem dJ6_bitCount_0f7a4_1 : decode cJ6_bitCount_0f7a4 1 = .ok (.iload_n 0, 1) := by decide +kernel
theorem dJ6_bitCount_0f7a4_2 : decode cJ6_bitCount_0f7a4 2 = .ok (.iconst 1, 1) := by decide +kernel
theorem dJ6_bitCount_0f7a4_3 : decode cJ6_bitCount_0f7a4 3 = .ok (.iushr, 1) := by decide +kernel
theorem dJ6_bitCount_0f7a4_4 : decode cJ6_bitCount_0f7a4 4 = .ok (.ldc_w 265, 3) := by decide +kernel
theorem dJ6_bitCount_0f7a4_7 : decode cJ6_bitCount_0f7a4 7 = .ok (.iand, 1) := by decide +kernel
theorem dJ6_bitCount_0f7a4_8 : decode cJ6_bitCount_0f7a4 8 = .ok (.isub, 1) := by decide +kernel
theorem dJ6_bitCount_0f7a4_9 : decode cJ6_bitCount_0f7a4 9 = .ok (.istore_n 0, 1) := by decide +kernel
theorem dJ6_bitCount_0f7a4_10 : decode cJ6_bitCount_0f7a4 10 = .ok (.iload_n 0, 1) := by decide +kernel
theorem dJ6_bitCount_0f7a4_11 : decode cJ6_bitCount_0f7a4 11 = .ok (.ldc_w 266, 3) := by decide +kernel
theorem dJ6_bitCount_0f7a4_14 : decode cJ6_bitCount_0f7a4 14 = .ok (.iand, 1) := by decide +kernel
theorem dJ6_bitCount_0f7a4_15 : decode cJ6_bitCount_0f7a4 15 = .ok (.iload_n 0, 1) := by decide +kernel
theorem dJ6_bitCount_0f7a4_16 : decode cJ6_bitCount_0f7a4 16 = .ok (.iconst 2, 1) := by decide +kernel
theorem dJ6_bitCount_0f7a4_17 : decode cJ6_bitCount_0f7a4 17 = .ok (.iushr, 1) := by decide +kernel
theorem dJ6_bitCount_0f7a4_18 : decode cJ6_bitCount_0f7a4 18 = .ok (.ldc_w 266, 3) := by decide +kernel
theorem dJ6_bitCount_0f7a4_21 : decode cJ6_bitCount_0f7a4 21 = .ok (.iand, 1) := by decide +kernel
theorem dJ6_bitCount_0f7a4_22 : decode cJ6_bitCount_0f7a4 22 = .ok (.iadd, 1) := by decide +kernel
theorem dJ6_bitCount_0f7a4_23 : decode cJ6_bitCount_0f7a4 23 = .ok (.istore_n 0, 1) := by decide +kernel
theorem dJ6_bitCount_0f7a4_24 : decode cJ6_bitCount_0f7a4 24 = .ok (.iload_n 0, 1) := by decide +kernel
theorem dJ6_bitCount_0f7a4_25 : decode cJ6_bitCount_0f7a4 25 = .ok (.iload_n 0, 1) := by decide +kernel
theorem dJ6_bitCount_0f7a4_26 : decode cJ6_bitCount_0f7a4 26 = .ok (.iconst 4, 1) := by decide +kernel
theorem dJ6_bitCount_0f7a4_27 : decode cJ6_bitCount_0f7a4 27 = .ok (.iushr, 1) := by decide +kernel
theorem dJ6_bitCount_0f7a4_28 : decode cJ6_bitCount_0f7a4 28 = .ok (.iadd, 1) := by decide +kernel
theorem dJ6_bitCount_0f7a4_29 : decode cJ6_bitCount_0f7a4 29 = .ok (.ldc_w 267, 3) := by decide +kernel
theorem dJ6_bitCount_0f7a4_32 : decode cJ6_bitCount_0f7a4 32 = .ok (.iand, 1) := by decide +kernel
theorem dJ6_bitCount_0f7a4_33 : decode cJ6_bitCount_0f7a4 33 = .ok (.istore_n 0, 1) := by decide +kernel
theorem dJ6_bitCount_0f7a4_34 : decode cJ6_bitCount_0f7a4 34 = .ok (.iload_n 0, 1) := by decide +kernel
theorem dJ6_bitCount_0f7a4_35 : decode cJ6_bitCount_0f7a4 35 = .ok (.iload_n 0, 1) := by decide +kernel
theorem dJ6_bitCount_0f7a4_36 : decode cJ6_bitCount_0f7a4 36 = .ok (.bipush 8, 2) := by decide +kernel
theorem dJ6_bitCount_0f7a4_38 : decode cJ6_bitCount_0f7a4 38 = .ok (.iushr, 1) := by decide +kernel
theorem dJ6_bitCount_0f7a4_39 : decode cJ6_bitCount_0f7a4 39 = .ok (.iadd, 1) := by decide +kernel
theorem dJ6_bitCount_0f7a4_40 : decode cJ6_bitCount_0f7a4 40 = .ok (.istore_n 0, 1) := by decide +kernel
theorem dJ6_bitCount_0f7a4_41 : decode cJ6_bitCount_0f7a4 41 = .ok (.iload_n 0, 1) := by decide +kernel
theorem dJ6_bitCount_0f7a4_42 : decode cJ6_bitCount_0f7a4 42 = .ok (.iload_n 0, 1) := by decide +kernel
theorem dJ6_bitCount_0f7a4_43 : decode cJ6_bitCount_0f7a4 43 = .ok (.bipush 16, 2) := by decide +kernel
theorem dJ6_bitCount_0f7a4_45 : decode cJ6_bitCount_0f7a4 45 = .ok (.iushr, 1) := by decide +kernel
theorem dJ6_bitCount_0f7a4_46 : decode cJ6_bitCount_0f7a4 46 = .ok (.iadd, 1) := by decide +kernel
theorem dJ6_bitCount_0f7a4_47 : decode cJ6_bitCount_0f7a4 47 = .ok (.istore_n 0, 1) := by decide +kernel
theorem dJ6_bitCount_0f7a4_48 : decode cJ6_bitCount_0f7a4 48 = .ok (.iload_n 0, 1) := by decide +kernel
theorem dJ6_bitCount_0f7a4_49 : decode cJ6_bitCount_0f7a4 49 = .ok (.bipush 63, 2) := by decide +kernel
theorem dJ6_bitCount_0f7a4_51 : decode cJ6_bitCount_0f7a4 51 = .ok (.iand, 1) := by decide +kernel
theorem dJ6_bitCount_0f7a4_52 : decode cJ6_bitCount_0f7a4 52 = .ok (.ireturn, 1) := by decide +kernel
theorem dJ9_max_7cf53_0 : decode cJ9_max_7cf53 0 = .ok (.iload_n 0, 1) := by decide +kernel
theorem dJ9_max_7cf53_1 : decode cJ9_max_7cf53 1 = .ok (.iload_n 1, 1) := by decide +kernel
theorem dJ9_max_7cf53_2 : decode cJ9_max_7cf53 2 = .ok (.if_icmp .lt 7, 3) := by decide +kernel
theorem dJ9_max_7cf53_5 : decode cJ9_max_7cf53 5 = .ok (.iload_n 0, 1) := by decide +kernel
theorem dJ9_max_7cf53_6 : decode cJ9_max_7cf53 6 = .ok (.goto 4, 3) := by decide +kernel
theorem dJ9_max_7cf53_9 : decode cJ9_max_7cf53 9 = .ok (.iload_n 1, 1) := by decide +kernel
theorem dJ9_max_7cf53_10 : decode cJ9_max_7cf53 10 = .ok (.ireturn, 1) := by decide +kernel
theorem dJ9_min_7cf53_0 : decode cJ9_min_7cf53 0 = .ok (.iload_n 0, 1) := by decide +kernel
theorem dJ9_min_7cf53_1 : decode cJ9_min_7cf53 1 = .ok (.iload_n 1, 1) := by decide +kernel
theorem dJ9_min_7cf53_2 : decode cJ9_min_7cf53 2 = .ok (.if_icmp .gt 7, 3) := by decide +kernel
theorem dJ9_min_7cf53_5 : decode cJ9_min_7cf53 5 = .ok (.iload_n 0, 1) := by decide +kernel
theorem dJ9_min_7cf53_6 : decode cJ9_min_7cf53 6 = .ok (.goto 4, 3) := by decide +kernel
theorem dJ9_min_7cf53_9 : decode cJ9_min_7cf53 9 = .ok (.iload_n 1, 1) := by decide +kernel
theorem dJ9_min_7cf53_10 : decode cJ9_min_7cf53 10 = .ok (.ireturn, 1) := by decide +kernel
theorem dJ0_length_8abf5_0 : decode cJ0_length_8abf5 0 = .ok (.aload_n 0, 1) := by decide +kernel
theorem dJ0_length_8abf5_1 : decode cJ0_length_8abf5 1 = .ok (.getfield 9, 3) := by decide +kernel
theorem dJ0_length_8abf5_4 : decode cJ0_length_8abf5 4 = .ok (.arraylength, 1) := by decide +kernel
theorem dJ0_length_8abf5_5 : decode cJ0_length_8abf5 5 = .ok (.aload_n 0, 1) := by decide +kernel
theorem dJ0_length_8abf5_6 : decode cJ0_length_8abf5 6 = .ok (.invokevirtual 335, 3) := by decide +kernel
theorem dJ0_length_8abf5_9 : decode cJ0_length_8abf5 9 = .ok (.ishr, 1) := by decide +kernel
theorem dJ0_length_8abf5_10 : decode cJ0_length_8abf5 10 = .ok (.ireturn, 1) := by decide +kernel
theorem dJ0_charAt_5068e_0 : decode cJ0_charAt_5068e 0 = .ok (.aload_n 0, 1) := by decide +kernel
theorem dJ0_charAt_5068e_1 : decode cJ0_charAt_5068e 1 = .ok (.invokevirtual 492, 3) := by decide +kernel
theorem dJ0_charAt_5068e_4 : decode cJ0_charAt_5068e 4 = .ok (.ifCond .eq 12, 3) := by decide +kernel
theorem dJ0_charAt_5068e_7 : decode cJ0_charAt_5068e 7 = .ok (.aload_n 0, 1) := by decide +kernel
theorem dJ0_charAt_5068e_8 : decode cJ0_charAt_5068e 8 = .ok (.getfield 9, 3) := by decide +kernel
theorem dJ0_charAt_5068e_11 : decode cJ0_charAt_5068e 11 = .ok (.iload_n 1, 1) := by decide +kernel
theorem dJ0_charAt_5068e_12 : decode cJ0_charAt_5068e 12 = .ok (.invokestatic 495, 3) := by decide +kernel
theorem dJ0_charAt_5068e_15 : decode cJ0_charAt_5068e 15 = .ok (.ireturn, 1) := by decide +kernel
theorem dJ0_charAt_5068e_16 : decode cJ0_charAt_5068e 16 = .ok (.aload_n 0, 1) := by decide +kernel
theorem dJ0_charAt_5068e_17 : decode cJ0_charAt_5068e 17 = .ok (.getfield 9, 3) := by decide +kernel
theorem dJ0_charAt_5068e_20 : decode cJ0_charAt_5068e 20 = .ok (.iload_n 1, 1) := by decide +kernel
theorem dJ0_charAt_5068e_21 : decode cJ0_charAt_5068e 21 = .ok (.invokestatic 498, 3) := by decide +kernel
theorem dJ0_charAt_5068e_24 : decode cJ0_charAt_5068e 24 = .ok (.ireturn, 1) := by decide +kernel
theorem dJ0_coder_7d493_0 : decode cJ0_coder_7d493 0 = .ok (.getstatic 38, 3) := by decide +kernel
theorem dJ0_coder_7d493_3 : decode cJ0_coder_7d493 3 = .ok (.ifCond .eq 10, 3) := by decide +kernel
theorem dJ0_coder_7d493_6 : decode cJ0_coder_7d493 6 = .ok (.aload_n 0, 1) := by decide +kernel
theorem dJ0_coder_7d493_7 : decode cJ0_coder_7d493 7 = .ok (.getfield 15, 3) := by decide +kernel
theorem dJ0_coder_7d493_10 : decode cJ0_coder_7d493 10 = .ok (.goto 4, 3) := by decide +kernel
theorem dJ0_coder_7d493_13 : decode cJ0_coder_7d493 13 = .ok (.iconst 1, 1) := by decide +kernel
theorem dJ0_coder_7d493_14 : decode cJ0_coder_7d493 14 = .ok (.ireturn, 1) := by decide +kernel
theorem dJ0_isLatin1_aae02_0 : decode cJ0_isLatin1_aae02 0 = .ok (.getstatic 38, 3) := by decide +kernel
theorem dJ0_isLatin1_aae02_3 : decode cJ0_isLatin1_aae02 3 = .ok (.ifCond .eq 14, 3) := by decide +kernel
theorem dJ0_isLatin1_aae02_6 : decode cJ0_isLatin1_aae02 6 = .ok (.aload_n 0, 1) := by decide +kernel
theorem dJ0_isLatin1_aae02_7 : decode cJ0_isLatin1_aae02 7 = .ok (.getfield 15, 3) := by decide +kernel
theorem dJ0_isLatin1_aae02_10 : decode cJ0_isLatin1_aae02 10 = .ok (.ifCond .ne 7, 3) := by decide +kernel
theorem dJ0_isLatin1_aae02_13 : decode cJ0_isLatin1_aae02 13 = .ok (.iconst 1, 1) := by decide +kernel
theorem dJ0_isLatin1_aae02_14 : decode cJ0_isLatin1_aae02 14 = .ok (.goto 4, 3) := by decide +kernel
theorem dJ0_isLatin1_aae02_17 : decode cJ0_isLatin1_aae02 17 = .ok (.iconst 0, 1) := by decide +kernel
theorem dJ0_isLatin1_aae02_18 : decode cJ0_isLatin1_aae02 18 = .ok (.ireturn, 1) := by decide +kernel
theorem dJ0_checkIndex_df160_0 : decode cJ0_checkIndex_df160 0 = .ok (.iload_n 0, 1) := by decide +kernel
theorem dJ0_checkIndex_df160_1 : decode cJ0_checkIndex_df160 1 = .ok (.iload_n 1, 1) := by decide +kernel
theorem dJ0_checkIndex_df160_2 : decode cJ0_checkIndex_df160 2 = .ok (.getstatic 1053, 3) := by decide +kernel
theorem dJ0_checkIndex_df160_5 : decode cJ0_checkIndex_df160 5 = .ok (.invokestatic 1059, 3) := by decide +kernel
theorem dJ0_checkIndex_df160_8 : decode cJ0_checkIndex_df160 8 = .ok (.pop, 1) := by decide +kernel
theorem dJ0_checkIndex_df160_9 : decode cJ0_checkIndex_df160 9 = .ok (.return_, 1) := by decide +kernel
theorem dJ1_charAt_3b067_0 : decode cJ1_charAt_3b067 0 = .ok (.iload_n 1, 1) := by decide +kernel
theorem dJ1_charAt_3b067_1 : decode cJ1_charAt_3b067 1 = .ok (.aload_n 0, 1) := by decide +kernel
theorem dJ1_charAt_3b067_2 : decode cJ1_charAt_3b067 2 = .ok (.arraylength, 1) := by decide +kernel
theorem dJ1_charAt_3b067_3 : decode cJ1_charAt_3b067 3 = .ok (.invokestatic 9, 3) := by decide +kernel
theorem dJ1_charAt_3b067_6 : decode cJ1_charAt_3b067 6 = .ok (.aload_n 0, 1) := by decide +kernel
theorem dJ1_charAt_3b067_7 : decode cJ1_charAt_3b067 7 = .ok (.iload_n 1, 1) := by decide +kernel
theorem dJ1_charAt_3b067_8 : decode cJ1_charAt_3b067 8 = .ok (.baload, 1) := by decide +kernel
theorem dJ1_charAt_3b067_9 : decode cJ1_charAt_3b067 9 = .ok (.sipush 255, 3) := by decide +kernel
theorem dJ1_charAt_3b067_12 : decode cJ1_charAt_3b067 12 = .ok (.iand, 1) := by decide +kernel
theorem dJ1_charAt_3b067_13 : decode cJ1_charAt_3b067 13 = .ok (.i2c, 1) := by decide +kernel
theorem dJ1_charAt_3b067_14 : decode cJ1_charAt_3b067 14 = .ok (.ireturn, 1) := by decide +kernel
theorem dJ2_getChar_3b067_0 : decode cJ2_getChar_3b067 0 = .ok (.getstatic 44, 3) := by decide +kernel
theorem dJ2_getChar_3b067_3 : decode cJ2_getChar_3b067 3 = .ok (.ifCond .ne 25, 3) := by decide +kernel
theorem dJ2_getChar_3b067_6 : decode cJ2_getChar_3b067 6 = .ok (.iload_n 1, 1) := by decide +kernel
theorem dJ2_getChar_3b067_7 : decode cJ2_getChar_3b067 7 = .ok (.ifCond .lt 11, 3) := by decide +kernel
theorem dJ2_getChar_3b067_10 : decode cJ2_getChar_3b067 10 = .ok (.iload_n 1, 1) := by decide +kernel
theorem dJ2_getChar_3b067_11 : decode cJ2_getChar_3b067 11 = .ok (.aload_n 0, 1) := by decide +kernel
theorem dJ2_getChar_3b067_12 : decode cJ2_getChar_3b067 12 = .ok (.invokestatic 48, 3) := by decide +kernel
theorem dJ2_getChar_3b067_15 : decode cJ2_getChar_3b067 15 = .ok (.if_icmp .lt 13, 3) := by decide +kernel
theorem dJ2_getChar_3b067_18 : decode cJ2_getChar_3b067 18 = .ok (.new 52, 3) := by decide +kernel
theorem dJ2_getChar_3b067_21 : decode cJ2_getChar_3b067 21 = .ok (.dup, 1) := by decide +kernel
theorem dJ2_getChar_3b067_22 : decode cJ2_getChar_3b067 22 = .ok (.ldc 54, 2) := by decide +kernel
theorem dJ2_getChar_3b067_24 : decode cJ2_getChar_3b067 24 = .ok (.invokespecial 56, 3) := by decide +kernel
theorem dJ2_getChar_3b067_27 : decode cJ2_getChar_3b067 27 = .ok (.athrow, 1) := by decide +kernel
theorem dJ2_getChar_3b067_28 : decode cJ2_getChar_3b067 28 = .ok (.iload_n 1, 1) := by decide +kernel
theorem dJ2_getChar_3b067_29 : decode cJ2_getChar_3b067 29 = .ok (.iconst 1, 1) := by decide +kernel
theorem dJ2_getChar_3b067_30 : decode cJ2_getChar_3b067 30 = .ok (.ishl, 1) := by decide +kernel
theorem dJ2_getChar_3b067_31 : decode cJ2_getChar_3b067 31 = .ok (.istore_n 1, 1) := by decide +kernel
theorem dJ2_getChar_3b067_32 : decode cJ2_getChar_3b067 32 = .ok (.aload_n 0, 1) := by decide +kernel
theorem dJ2_getChar_3b067_33 : decode cJ2_getChar_3b067 33 = .ok (.iload_n 1, 1) := by decide +kernel
theorem dJ2_getChar_3b067_34 : decode cJ2_getChar_3b067 34 = .ok (.iinc 1 1, 3) := by decide +kernel
theorem dJ2_getChar_3b067_37 : decode cJ2_getChar_3b067 37 = .ok (.baload, 1) := by decide +kernel
theorem dJ2_getChar_3b067_38 : decode cJ2_getChar_3b067 38 = .ok (.sipush 255, 3) := by decide +kernel
theorem dJ2_getChar_3b067_41 : decode cJ2_getChar_3b067 41 = .ok (.iand, 1) := by decide +kernel
theorem dJ2_getChar_3b067_42 : decode cJ2_getChar_3b067 42 = .ok (.getstatic 59, 3) := by decide +kernel
theorem dJ2_getChar_3b067_45 : decode cJ2_getChar_3b067 45 = .ok (.ishl, 1) := by decide +kernel
theorem dJ2_getChar_3b067_46 : decode cJ2_getChar_3b067 46 = .ok (.aload_n 0, 1) := by decide +kernel
theorem dJ2_getChar_3b067_47 : decode cJ2_getChar_3b067 47 = .ok (.iload_n 1, 1) := by decide +kernel
theorem dJ2_getChar_3b067_48 : decode cJ2_getChar_3b067 48 = .ok (.baload, 1) := by decide +kernel
theorem dJ2_getChar_3b067_49 : decode cJ2_getChar_3b067 49 = .ok (.sipush 255, 3) := by decide +kernel
theorem dJ2_getChar_3b067_52 : decode cJ2_getChar_3b067 52 = .ok (.iand, 1) := by decide +kernel
theorem dJ2_getChar_3b067_53 : decode cJ2_getChar_3b067 53 = .ok (.getstatic 63, 3) := by decide +kernel
theorem dJ2_getChar_3b067_56 : decode cJ2_getChar_3b067 56 = .ok (.ishl, 1) := by decide +kernel
theorem dJ2_getChar_3b067_57 : decode cJ2_getChar_3b067 57 = .ok (.ior, 1) := by decide +kernel
theorem dJ2_getChar_3b067_58 : decode cJ2_getChar_3b067 58 = .ok (.i2c, 1) := by decide +kernel
theorem dJ2_getChar_3b067_59 : decode cJ2_getChar_3b067 59 = .ok (.ireturn, 1) := by decide +kernel
theorem dJ2_length_9d52b_0 : decode cJ2_length_9d52b 0 = .ok (.aload_n 0, 1) := by decide +kernel
theorem dJ2_length_9d52b_1 : decode cJ2_length_9d52b 1 = .ok (.arraylength, 1) := by decide +kernel
theorem dJ2_length_9d52b_2 : decode cJ2_length_9d52b 2 = .ok (.iconst 1, 1) := by decide +kernel
theorem dJ2_length_9d52b_3 : decode cJ2_length_9d52b 3 = .ok (.ishr, 1) := by decide +kernel
theorem dJ2_length_9d52b_4 : decode cJ2_length_9d52b 4 = .ok (.ireturn, 1) := by decide +kernel
theorem dJ2_charAt_3b067_0 : decode cJ2_charAt_3b067 0 = .ok (.iload_n 1, 1) := by decide +kernel
theorem dJ2_charAt_3b067_1 : decode cJ2_charAt_3b067 1 = .ok (.aload_n 0, 1) := by decide +kernel
theorem dJ2_charAt_3b067_2 : decode cJ2_charAt_3b067 2 = .ok (.invokestatic 67, 3) := by decide +kernel
theorem dJ2_charAt_3b067_5 : decode cJ2_charAt_3b067 5 = .ok (.aload_n 0, 1) := by decide +kernel
theorem dJ2_charAt_3b067_6 : decode cJ2_charAt_3b067 6 = .ok (.iload_n 1, 1) := by decide +kernel
theorem dJ2_charAt_3b067_7 : decode cJ2_charAt_3b067 7 = .ok (.invokestatic 71, 3) := by decide +kernel
theorem dJ2_charAt_3b067_10 : decode cJ2_charAt_3b067 10 = .ok (.ireturn, 1) := by decide +kernel
theorem dJ2_checkIndex_2214a_0 : decode cJ2_checkIndex_2214a 0 = .ok (.iload_n 0, 1) := by decide +kernel
theorem dJ2_checkIndex_2214a_1 : decode cJ2_checkIndex_2214a 1 = .ok (.aload_n 1, 1) := by decide +kernel
theorem dJ2_checkIndex_2214a_2 : decode cJ2_checkIndex_2214a 2 = .ok (.invokestatic 48, 3) := by decide +kernel
theorem dJ2_checkIndex_2214a_5 : decode cJ2_checkIndex_2214a 5 = .ok (.invokestatic 414, 3) := by decide +kernel
theorem dJ2_checkIndex_2214a_8 : decode cJ2_checkIndex_2214a 8 = .ok (.return_, 1) := by decide +kernel
theorem dJ7_fill_53178_0 : decode cJ7_fill_53178 0 = .ok (.iconst 0, 1) := by decide +kernel
theorem dJ7_fill_53178_1 : decode cJ7_fill_53178 1 = .ok (.istore_n 2, 1) := by decide +kernel
theorem dJ7_fill_53178_2 : decode cJ7_fill_53178 2 = .ok (.aload_n 0, 1) := by decide +kernel
theorem dJ7_fill_53178_3 : decode cJ7_fill_53178 3 = .ok (.arraylength, 1) := by decide +kernel
theorem dJ7_fill_53178_4 : decode cJ7_fill_53178 4 = .ok (.istore_n 3, 1) := by decide +kernel
theorem dJ7_fill_53178_5 : decode cJ7_fill_53178 5 = .ok (.iload_n 2, 1) := by decide +kernel
theorem dJ7_fill_53178_6 : decode cJ7_fill_53178 6 = .ok (.iload_n 3, 1) := by decide +kernel
theorem dJ7_fill_53178_7 : decode cJ7_fill_53178 7 = .ok (.if_icmp .ge 13, 3) := by decide +kernel
theorem dJ7_fill_53178_10 : decode cJ7_fill_53178 10 = .ok (.aload_n 0, 1) := by decide +kernel
theorem dJ7_fill_53178_11 : decode cJ7_fill_53178 11 = .ok (.iload_n 2, 1) := by decide +kernel
theorem dJ7_fill_53178_12 : decode cJ7_fill_53178 12 = .ok (.iload_n 1, 1) := by decide +kernel
theorem dJ7_fill_53178_13 : decode cJ7_fill_53178 13 = .ok (.iastore, 1) := by decide +kernel
theorem dJ7_fill_53178_14 : decode cJ7_fill_53178 14 = .ok (.iinc 2 1, 3) := by decide +kernel
theorem dJ7_fill_53178_17 : decode cJ7_fill_53178 17 = .ok (.goto (-12), 3) := by decide +kernel
theorem dJ7_fill_53178_20 : decode cJ7_fill_53178 20 = .ok (.return_, 1) := by decide +kernel
theorem dJ3_checkIndex_8e157_0 : decode cJ3_checkIndex_8e157 0 = .ok (.iload_n 0, 1) := by decide +kernel
theorem dJ3_checkIndex_8e157_1 : decode cJ3_checkIndex_8e157 1 = .ok (.ifCond .lt 8, 3) := by decide +kernel
theorem dJ3_checkIndex_8e157_4 : decode cJ3_checkIndex_8e157 4 = .ok (.iload_n 0, 1) := by decide +kernel
theorem dJ3_checkIndex_8e157_5 : decode cJ3_checkIndex_8e157 5 = .ok (.iload_n 1, 1) := by decide +kernel
theorem dJ3_checkIndex_8e157_6 : decode cJ3_checkIndex_8e157 6 = .ok (.if_icmp .lt 10, 3) := by decide +kernel
theorem dJ3_checkIndex_8e157_9 : decode cJ3_checkIndex_8e157 9 = .ok (.aload_n 2, 1) := by decide +kernel
theorem dJ3_checkIndex_8e157_10 : decode cJ3_checkIndex_8e157 10 = .ok (.iload_n 0, 1) := by decide +kernel
theorem dJ3_checkIndex_8e157_11 : decode cJ3_checkIndex_8e157 11 = .ok (.iload_n 1, 1) := by decide +kernel
theorem dJ3_checkIndex_8e157_12 : decode cJ3_checkIndex_8e157 12 = .ok (.invokestatic 95, 3) := by decide +kernel
theorem dJ3_checkIndex_8e157_15 : decode cJ3_checkIndex_8e157 15 = .ok (.athrow, 1) := by decide +kernel
theorem dJ3_checkIndex_8e157_16 : decode cJ3_checkIndex_8e157 16 = .ok (.iload_n 0, 1) := by decide +kernel
theorem dJ3_checkIndex_8e157_17 : decode cJ3_checkIndex_8e157 17 = .ok (.ireturn, 1) := by decide +kernel
end
section
theorem dX4_init_0 : decode cX4_init 0 = .ok (.aload_n 0, 1) := by decide +kernel
theorem dX4_init_1 : decode cX4_init 1 = .ok (.invokespecial 3, 3) := by decide +kernel
theorem dX4_init_4 : decode cX4_init 4 = .ok (.aload_n 0, 1) := by decide +kernel
theorem dX4_init_5 : decode cX4_init 5 = .ok (.new 9, 3) := by decide +kernel
theorem dX4_init_8 : decode cX4_init 8 = .ok (.dup, 1) := by decide +kernel
theorem dX4_init_9 : decode cX4_init 9 = .ok (.invokespecial 11, 3) := by decide +kernel
theorem dX4_init_12 : decode cX4_init 12 = .ok (.putfield 12, 3) := by decide +kernel
theorem dX4_init_15 : decode cX4_init 15 = .ok (.aload_n 0, 1) := by decide +kernel
theorem dX4_init_16 : decode cX4_init 16 = .ok (.new 9, 3) := by decide +kernel
theorem dX4_init_19 : decode cX4_init 19 = .ok (.dup, 1) := by decide +kernel
theorem dX4_init_20 : decode cX4_init 20 = .ok (.invokespecial 11, 3) := by decide +kernel
theorem dX4_init_23 : decode cX4_init 23 = .ok (.putfield 16, 3) := by decide +kernel
theorem dX4_init_26 : decode cX4_init 26 = .ok (.aload_n 0, 1) := by decide +kernel
theorem dX4_init_27 : decode cX4_init 27 = .ok (.new 9, 3) := by decide +kernel
theorem dX4_init_30 : decode cX4_init 30 = .ok (.dup, 1) := by decide +kernel
theorem dX4_init_31 : decode cX4_init 31 = .ok (.invokespecial 11, 3) := by decide +kernel
theorem dX4_init_34 : decode cX4_init 34 = .ok (.putfield 19, 3) := by decide +kernel
theorem dX4_init_37 : decode cX4_init 37 = .ok (.aload_n 0, 1) := by decide +kernel
theorem dX4_init_38 : decode cX4_init 38 = .ok (.iconst 0, 1) := by decide +kernel
theorem dX4_init_39 : decode cX4_init 39 = .ok (.putfield 22, 3) := by decide +kernel
theorem dX4_init_42 : decode cX4_init 42 = .ok (.aload_n 0, 1) := by decide +kernel
theorem dX4_init_43 : decode cX4_init 43 = .ok (.new 26, 3) := by decide +kernel
theorem dX4_init_46 : decode cX4_init 46 = .ok (.dup, 1) := by decide +kernel
theorem dX4_init_47 : decode cX4_init 47 = .ok (.invokespecial 28, 3) := by decide +kernel
theorem dX4_init_50 : decode cX4_init 50 = .ok (.putfield 29, 3) := by decide +kernel
theorem dX4_init_53 : decode cX4_init 53 = .ok (.aload_n 0, 1) := by decide +kernel
theorem dX4_init_54 : decode cX4_init 54 = .ok (.iconst 4, 1) := by decide +kernel
theorem dX4_init_55 : decode cX4_init 55 = .ok (.anewarray 33, 3) := by decide +kernel
theorem dX4_init_58 : decode cX4_init 58 = .ok (.putfield 35, 3) := by decide +kernel
theorem dX4_init_61 : decode cX4_init 61 = .ok (.iconst 0, 1) := by decide +kernel
theorem dX4_init_62 : decode cX4_init 62 = .ok (.istore_n 1, 1) := by decide +kernel
theorem dX4_init_63 : decode cX4_init 63 = .ok (.iload_n 1, 1) := by decide +kernel
theorem dX4_init_64 : decode cX4_init 64 = .ok (.iconst 4, 1) := by decide +kernel
theorem dX4_init_65 : decode cX4_init 65 = .ok (.if_icmp .ge 22, 3) := by decide +kernel
theorem dX4_init_68 : decode cX4_init 68 = .ok (.aload_n 0, 1) := by decide +kernel
theorem dX4_init_69 : decode cX4_init 69 = .ok (.getfield 35, 3) := by decide +kernel
theorem dX4_init_72 : decode cX4_init 72 = .ok (.iload_n 1, 1) := by decide +kernel
theorem dX4_init_73 : decode cX4_init 73 = .ok (.new 33, 3) := by decide +kernel
theorem dX4_init_76 : decode cX4_init 76 = .ok (.dup, 1) := by decide +kernel
theorem dX4_init_77 : decode cX4_init 77 = .ok (.invokespecial 39, 3) := by decide +kernel
theorem dX4_init_80 : decode cX4_init 80 = .ok (.aastore, 1) := by decide +kernel
theorem dX4_init_81 : decode cX4_init 81 = .ok (.iinc 1 1, 3) := by decide +kernel
theorem dX4_init_84 : decode cX4_init 84 = .ok (.goto (-21), 3) := by decide +kernel
theorem dX4_init_87 : decode cX4_init 87 = .ok (.aload_n 0, 1) := by decide +kernel
theorem dX4_init_88 : decode cX4_init 88 = .ok (.bipush 7, 2) := by decide +kernel
theorem dX4_init_90 : decode cX4_init 90 = .ok (.newarray .int, 2) := by decide +kernel
theorem dX4_init_92 : decode cX4_init 92 = .ok (.putfield 40, 3) := by decide +kernel
theorem dX4_init_95 : decode cX4_init 95 = .ok (.return_, 1) := by decide +kernel
theorem dX4_set_0 : decode cX4_set 0 = .ok (.iload_n 1, 1) := by decide +kernel
theorem dX4_set_1 : decode cX4_set 1 = .ok (.iload_n 2, 1) := by decide +kernel
theorem dX4_set_2 : decode cX4_set 2 = .ok (.invokestatic 44, 3) := by decide +kernel
theorem dX4_set_5 : decode cX4_set 5 = .ok (.ifCond .ne 10, 3) := by decide +kernel
theorem dX4_set_8 : decode cX4_set 8 = .ok (.aload_n 0, 1) := by decide +kernel
theorem dX4_set_9 : decode cX4_set 9 = .ok (.ldc 48, 2) := by decide +kernel
theorem dX4_set_11 : decode cX4_set 11 = .ok (.invokevirtual 49, 3) := by decide +kernel
theorem dX4_set_14 : decode cX4_set 14 = .ok (.ireturn, 1) := by decide +kernel
theorem dX4_set_15 : decode cX4_set 15 = .ok (.aload_n 0, 1) := by decide +kernel
theorem dX4_set_16 : decode cX4_set 16 = .ok (.getfield 12, 3) := by decide +kernel
theorem dX4_set_19 : decode cX4_set 19 = .ok (.getfield 53, 3) := by decide +kernel
theorem dX4_set_22 : decode cX4_set 22 = .ok (.iload_n 1, 1) := by decide +kernel
theorem dX4_set_23 : decode cX4_set 23 = .ok (.iaload, 1) := by decide +kernel
theorem dX4_set_24 : decode cX4_set 24 = .ok (.istore_n 3, 1) := by decide +kernel
theorem dX4_set_25 : decode cX4_set 25 = .ok (.aload_n 0, 1) := by decide +kernel
theorem dX4_set_26 : decode cX4_set 26 = .ok (.getfield 12, 3) := by decide +kernel
theorem dX4_set_29 : decode cX4_set 29 = .ok (.getfield 53, 3) := by decide +kernel
theorem dX4_set_32 : decode cX4_set 32 = .ok (.iload_n 1, 1) := by decide +kernel
theorem dX4_set_33 : decode cX4_set 33 = .ok (.iload_n 2, 1) := by decide +kernel
theorem dX4_set_34 : decode cX4_set 34 = .ok (.iastore, 1) := by decide +kernel
theorem dX4_set_35 : decode cX4_set 35 = .ok (.iload_n 3, 1) := by decide +kernel
theorem dX4_set_36 : decode cX4_set 36 = .ok (.ireturn, 1) := by decide +kernel
theorem dX4_home_0 : decode cX4_home 0 = .ok (.iload_n 1, 1) := by decide +kernel
theorem dX4_home_1 : decode cX4_home 1 = .ok (.iconst 0, 1) := by decide +kernel
theorem dX4_home_2 : decode cX4_home 2 = .ok (.iconst 3, 1) := by decide +kernel
theorem dX4_home_3 : decode cX4_home 3 = .ok (.invokestatic 56, 3) := by decide +kernel
theorem dX4_home_6 : decode cX4_home 6 = .ok (.ifCond .ne 10, 3) := by decide +kernel
theorem dX4_home_9 : decode cX4_home 9 = .ok (.aload_n 0, 1) := by decide +kernel
theorem dX4_home_10 : decode cX4_home 10 = .ok (.ldc 48, 2) := by decide +kernel
theorem dX4_home_12 : decode cX4_home 12 = .ok (.invokevirtual 49, 3) := by decide +kernel
theorem dX4_home_15 : decode cX4_home 15 = .ok (.ireturn, 1) := by decide +kernel
theorem dX4_home_16 : decode cX4_home 16 = .ok (.aload_n 0, 1) := by decide +kernel
theorem dX4_home_17 : decode cX4_home 17 = .ok (.getfield 12, 3) := by decide +kernel
theorem dX4_home_20 : decode cX4_home 20 = .ok (.getfield 53, 3) := by decide +kernel
theorem dX4_home_23 : decode cX4_home 23 = .ok (.iload_n 1, 1) := by decide +kernel
theorem dX4_home_24 : decode cX4_home 24 = .ok (.iaload, 1) := by decide +kernel
theorem dX4_home_25 : decode cX4_home 25 = .ok (.ireturn, 1) := by decide +kernel
theorem dX4_visit_0 : decode cX4_visit 0 = .ok (.iload_n 1, 1) := by decide +kernel
theorem dX4_visit_1 : decode cX4_visit 1 = .ok (.iconst 0, 1) := by decide +kernel
theorem dX4_visit_2 : decode cX4_visit 2 = .ok (.iconst 5, 1) := by decide +kernel
theorem dX4_visit_3 : decode cX4_visit 3 = .ok (.invokestatic 56, 3) := by decide +kernel
theorem dX4_visit_6 : decode cX4_visit 6 = .ok (.ifCond .eq 14, 3) := by decide +kernel
theorem dX4_visit_9 : decode cX4_visit 9 = .ok (.iload_n 2, 1) := by decide +kernel
theorem dX4_visit_10 : decode cX4_visit 10 = .ok (.iconst 0, 1) := by decide +kernel
theorem dX4_visit_11 : decode cX4_visit 11 = .ok (.sipush 255, 3) := by decide +kernel
theorem dX4_visit_14 : decode cX4_visit 14 = .ok (.invokestatic 56, 3) := by decide +kernel
theorem dX4_visit_17 : decode cX4_visit 17 = .ok (.ifCond .ne 10, 3) := by decide +kernel
theorem dX4_visit_20 : decode cX4_visit 20 = .ok (.aload_n 0, 1) := by decide +kernel
theorem dX4_visit_21 : decode cX4_visit 21 = .ok (.ldc 48, 2) := by decide +kernel
theorem dX4_visit_23 : decode cX4_visit 23 = .ok (.invokevirtual 49, 3) := by decide +kernel
theorem dX4_visit_26 : decode cX4_visit 26 = .ok (.ireturn, 1) := by decide +kernel
theorem dX4_visit_27 : decode cX4_visit 27 = .ok (.aload_n 0, 1) := by decide +kernel
theorem dX4_visit_28 : decode cX4_visit 28 = .ok (.getfield 12, 3) := by decide +kernel
theorem dX4_visit_31 : decode cX4_visit 31 = .ok (.getfield 60, 3) := by decide +kernel
theorem dX4_visit_34 : decode cX4_visit 34 = .ok (.iload_n 1, 1) := by decide +kernel
theorem dX4_visit_35 : decode cX4_visit 35 = .ok (.iaload, 1) := by decide +kernel
theorem dX4_visit_36 : decode cX4_visit 36 = .ok (.istore_n 3, 1) := by decide +kernel
theorem dX4_visit_37 : decode cX4_visit 37 = .ok (.aload_n 0, 1) := by decide +kernel
theorem dX4_visit_38 : decode cX4_visit 38 = .ok (.getfield 12, 3) := by decide +kernel
theorem dX4_visit_41 : decode cX4_visit 41 = .ok (.getfield 60, 3) := by decide +kernel
theorem dX4_visit_44 : decode cX4_visit 44 = .ok (.iload_n 1, 1) := by decide +kernel
theorem dX4_visit_45 : decode cX4_visit 45 = .ok (.iload_n 2, 1) := by decide +kernel
theorem dX4_visit_46 : decode cX4_visit 46 = .ok (.iastore, 1) := by decide +kernel
theorem dX4_visit_47 : decode cX4_visit 47 = .ok (.iload_n 3, 1) := by decide +kernel
theorem dX4_visit_48 : decode cX4_visit 48 = .ok (.ireturn, 1) := by decide +kernel
theorem dX4_visits_0 : decode cX4_visits 0 = .ok (.iload_n 1, 1) := by decide +kernel
theorem dX4_visits_1 : decode cX4_visits 1 = .ok (.iconst 0, 1) := by decide +kernel
theorem dX4_visits_2 : decode cX4_visits 2 = .ok (.iconst 5, 1) := by decide +kernel
theorem dX4_visits_3 : decode cX4_visits 3 = .ok (.invokestatic 56, 3) := by decide +kernel
theorem dX4_visits_6 : decode cX4_visits 6 = .ok (.ifCond .ne 10, 3) := by decide +kernel
theorem dX4_visits_9 : decode cX4_visits 9 = .ok (.aload_n 0, 1) := by decide +kernel
theorem dX4_visits_10 : decode cX4_visits 10 = .ok (.ldc 48, 2) := by decide +kernel
theorem dX4_visits_12 : decode cX4_visits 12 = .ok (.invokevirtual 49, 3) := by decide +kernel
theorem dX4_visits_15 : decode cX4_visits 15 = .ok (.ireturn, 1) := by decide +kernel
theorem dX4_visits_16 : decode cX4_visits 16 = .ok (.aload_n 0, 1) := by decide +kernel
theorem dX4_visits_17 : decode cX4_visits 17 = .ok (.getfield 12, 3) := by decide +kernel
theorem dX4_visits_20 : decode cX4_visits 20 = .ok (.getfield 60, 3) := by decide +kernel
theorem dX4_visits_23 : decode cX4_visits 23 = .ok (.iload_n 1, 1) := by decide +kernel
theorem dX4_visits_24 : decode cX4_visits 24 = .ok (.iaload, 1) := by decide +kernel
theorem dX4_visits_25 : decode cX4_visits 25 = .ok (.ireturn, 1) := by decide +kernel
theorem dX4_resident_0 : decode cX4_resident 0 = .ok (.iload_n 1, 1) := by decide +kernel
theorem dX4_resident_1 : decode cX4_resident 1 = .ok (.iconst 0, 1) := by decide +kernel
theorem dX4_resident_2 : decode cX4_resident 2 = .ok (.bipush 6, 2) := by decide +kernel
theorem dX4_resident_4 : decode cX4_resident 4 = .ok (.invokestatic 56, 3) := by decide +kernel
theorem dX4_resident_7 : decode cX4_resident 7 = .ok (.ifCond .ne 10, 3) := by decide +kernel
theorem dX4_resident_10 : decode cX4_resident 10 = .ok (.aload_n 0, 1) := by decide +kernel
theorem dX4_resident_11 : decode cX4_resident 11 = .ok (.ldc 48, 2) := by decide +kernel
theorem dX4_resident_13 : decode cX4_resident 13 = .ok (.invokevirtual 49, 3) := by decide +kernel
theorem dX4_resident_16 : decode cX4_resident 16 = .ok (.ireturn, 1) := by decide +kernel
theorem dX4_resident_17 : decode cX4_resident 17 = .ok (.aload_n 0, 1) := by decide +kernel
theorem dX4_resident_18 : decode cX4_resident 18 = .ok (.getfield 12, 3) := by decide +kernel
theorem dX4_resident_21 : decode cX4_resident 21 = .ok (.iload_n 1, 1) := by decide +kernel
theorem dX4_resident_22 : decode cX4_resident 22 = .ok (.invokevirtual 63, 3) := by decide +kernel
theorem dX4_resident_25 : decode cX4_resident 25 = .ok (.istore_n 2, 1) := by decide +kernel
theorem dX4_resident_26 : decode cX4_resident 26 = .ok (.iload_n 2, 1) := by decide +kernel
theorem dX4_resident_27 : decode cX4_resident 27 = .ok (.iconst (-1), 1) := by decide +kernel
theorem dX4_resident_28 : decode cX4_resident 28 = .ok (.if_icmp .ne 12, 3) := by decide +kernel
theorem dX4_resident_31 : decode cX4_resident 31 = .ok (.aload_n 0, 1) := by decide +kernel
theorem dX4_resident_32 : decode cX4_resident 32 = .ok (.ldc 66, 2) := by decide +kernel
theorem dX4_resident_34 : decode cX4_resident 34 = .ok (.invokevirtual 49, 3) := by decide +kernel
theorem dX4_resident_37 : decode cX4_resident 37 = .ok (.goto 4, 3) := by decide +kernel
theorem dX4_resident_40 : decode cX4_resident 40 = .ok (.iload_n 2, 1) := by decide +kernel
theorem dX4_resident_41 : decode cX4_resident 41 = .ok (.ireturn, 1) := by decide +kernel
theorem dX4_of_0 : decode cX4_of 0 = .ok (.aload_n 0, 1) := by decide +kernel
theorem dX4_of_1 : decode cX4_of 1 = .ok (.getfield 12, 3) := by decide +kernel
theorem dX4_of_4 : decode cX4_of 4 = .ok (.iload_n 1, 1) := by decide +kernel
theorem dX4_of_5 : decode cX4_of 5 = .ok (.invokevirtual 67, 3) := by decide +kernel
theorem dX4_of_8 : decode cX4_of 8 = .ok (.ifCond .ne 10, 3) := by decide +kernel
theorem dX4_of_11 : decode cX4_of 11 = .ok (.aload_n 0, 1) := by decide +kernel
theorem dX4_of_12 : decode cX4_of 12 = .ok (.ldc 48, 2) := by decide +kernel
theorem dX4_of_14 : decode cX4_of 14 = .ok (.invokevirtual 49, 3) := by decide +kernel
theorem dX4_of_17 : decode cX4_of 17 = .ok (.ireturn, 1) := by decide +kernel
theorem dX4_of_18 : decode cX4_of 18 = .ok (.aload_n 0, 1) := by decide +kernel
theorem dX4_of_19 : decode cX4_of 19 = .ok (.getfield 12, 3) := by decide +kernel
theorem dX4_of_22 : decode cX4_of 22 = .ok (.getfield 71, 3) := by decide +kernel
theorem dX4_of_25 : decode cX4_of 25 = .ok (.iload_n 1, 1) := by decide +kernel
theorem dX4_of_26 : decode cX4_of 26 = .ok (.aaload, 1) := by decide +kernel
theorem dX4_of_27 : decode cX4_of 27 = .ok (.astore_n 3, 1) := by decide +kernel
theorem dX4_of_28 : decode cX4_of 28 = .ok (.iload_n 2, 1) := by decide +kernel
theorem dX4_of_29 : decode cX4_of 29 = .ok (.tableswitch 95 0 8 #[51, 51, 51, 51, 51, 57, 62, 76, 82], 51) := by decide +kernel
theorem dX4_of_80 : decode cX4_of 80 = .ok (.aload_n 3, 1) := by decide +kernel
theorem dX4_of_81 : decode cX4_of 81 = .ok (.iload_n 2, 1) := by decide +kernel
theorem dX4_of_82 : decode cX4_of 82 = .ok (.invokevirtual 75, 3) := by decide +kernel
theorem dX4_of_85 : decode cX4_of 85 = .ok (.ireturn, 1) := by decide +kernel
theorem dX4_of_86 : decode cX4_of 86 = .ok (.aload_n 3, 1) := by decide +kernel
theorem dX4_of_87 : decode cX4_of 87 = .ok (.invokevirtual 80, 3) := by decide +kernel
theorem dX4_of_90 : decode cX4_of 90 = .ok (.ireturn, 1) := by decide +kernel
theorem dX4_of_91 : decode cX4_of 91 = .ok (.aload_n 3, 1) := by decide +kernel
theorem dX4_of_92 : decode cX4_of 92 = .ok (.aload_n 0, 1) := by decide +kernel
theorem dX4_of_93 : decode cX4_of 93 = .ok (.getfield 12, 3) := by decide +kernel
theorem dX4_of_96 : decode cX4_of 96 = .ok (.getfield 53, 3) := by decide +kernel
theorem dX4_of_99 : decode cX4_of 99 = .ok (.iconst 3, 1) := by decide +kernel
theorem dX4_of_100 : decode cX4_of 100 = .ok (.iaload, 1) := by decide +kernel
theorem dX4_of_101 : decode cX4_of 101 = .ok (.invokevirtual 84, 3) := by decide +kernel
theorem dX4_of_104 : decode cX4_of 104 = .ok (.ireturn, 1) := by decide +kernel
theorem dX4_of_105 : decode cX4_of 105 = .ok (.aload_n 3, 1) := by decide +kernel
theorem dX4_of_106 : decode cX4_of 106 = .ok (.iconst 0, 1) := by decide +kernel
theorem dX4_of_107 : decode cX4_of 107 = .ok (.invokevirtual 87, 3) := by decide +kernel
theorem dX4_of_110 : decode cX4_of 110 = .ok (.ireturn, 1) := by decide +kernel
theorem dX4_of_111 : decode cX4_of 111 = .ok (.aload_n 3, 1) := by decide +kernel
theorem dX4_of_112 : decode cX4_of 112 = .ok (.invokevirtual 90, 3) := by decide +kernel
theorem dX4_of_115 : decode cX4_of 115 = .ok (.ifCond .eq 7, 3) := by decide +kernel
theorem dX4_of_118 : decode cX4_of 118 = .ok (.iconst 1, 1) := by decide +kernel
theorem dX4_of_119 : decode cX4_of 119 = .ok (.goto 4, 3) := by decide +kernel
theorem dX4_of_122 : decode cX4_of 122 = .ok (.iconst 0, 1) := by decide +kernel
theorem dX4_of_123 : decode cX4_of 123 = .ok (.ireturn, 1) := by decide +kernel
theorem dX4_of_124 : decode cX4_of 124 = .ok (.aload_n 0, 1) := by decide +kernel
theorem dX4_of_125 : decode cX4_of 125 = .ok (.ldc 48, 2) := by decide +kernel
theorem dX4_of_127 : decode cX4_of 127 = .ok (.invokevirtual 49, 3) := by decide +kernel
theorem dX4_of_130 : decode cX4_of 130 = .ok (.ireturn, 1) := by decide +kernel
theorem dX4_change_0 : decode cX4_change 0 = .ok (.aload_n 0, 1) := by decide +kernel
theorem dX4_change_1 : decode cX4_change 1 = .ok (.getfield 12, 3) := by decide +kernel
theorem dX4_change_4 : decode cX4_change 4 = .ok (.iload_n 1, 1) := by decide +kernel
theorem dX4_change_5 : decode cX4_change 5 = .ok (.invokevirtual 67, 3) := by decide +kernel
theorem dX4_change_8 : decode cX4_change 8 = .ok (.ifCond .eq 16, 3) := by decide +kernel
theorem dX4_change_11 : decode cX4_change 11 = .ok (.aload_n 0, 1) := by decide +kernel
theorem dX4_change_12 : decode cX4_change 12 = .ok (.getfield 12, 3) := by decide +kernel
theorem dX4_change_15 : decode cX4_change 15 = .ok (.iload_n 1, 1) := by decide +kernel
theorem dX4_change_16 : decode cX4_change 16 = .ok (.iload_n 2, 1) := by decide +kernel
theorem dX4_change_17 : decode cX4_change 17 = .ok (.iload_n 3, 1) := by decide +kernel
theorem dX4_change_18 : decode cX4_change 18 = .ok (.invokevirtual 94, 3) := by decide +kernel
theorem dX4_change_21 : decode cX4_change 21 = .ok (.ifCond .ne 10, 3) := by decide +kernel
theorem dX4_change_24 : decode cX4_change 24 = .ok (.aload_n 0, 1) := by decide +kernel
theorem dX4_change_25 : decode cX4_change 25 = .ok (.ldc 48, 2) := by decide +kernel
theorem dX4_change_27 : decode cX4_change 27 = .ok (.invokevirtual 49, 3) := by decide +kernel
theorem dX4_change_30 : decode cX4_change 30 = .ok (.ireturn, 1) := by decide +kernel
theorem dX4_change_31 : decode cX4_change 31 = .ok (.aload_n 0, 1) := by decide +kernel
theorem dX4_change_32 : decode cX4_change 32 = .ok (.getfield 12, 3) := by decide +kernel
theorem dX4_change_35 : decode cX4_change 35 = .ok (.getfield 71, 3) := by decide +kernel
theorem dX4_change_38 : decode cX4_change 38 = .ok (.iload_n 1, 1) := by decide +kernel
theorem dX4_change_39 : decode cX4_change 39 = .ok (.aaload, 1) := by decide +kernel
theorem dX4_change_40 : decode cX4_change 40 = .ok (.astore 4, 2) := by decide +kernel
theorem dX4_change_42 : decode cX4_change 42 = .ok (.aload 4, 2) := by decide +kernel
theorem dX4_change_44 : decode cX4_change 44 = .ok (.iload_n 2, 1) := by decide +kernel
theorem dX4_change_45 : decode cX4_change 45 = .ok (.invokevirtual 75, 3) := by decide +kernel
theorem dX4_change_48 : decode cX4_change 48 = .ok (.istore 5, 2) := by decide +kernel
theorem dX4_change_50 : decode cX4_change 50 = .ok (.aload 4, 2) := by decide +kernel
theorem dX4_change_52 : decode cX4_change 52 = .ok (.iload_n 2, 1) := by decide +kernel
theorem dX4_change_53 : decode cX4_change 53 = .ok (.iload_n 3, 1) := by decide +kernel
theorem dX4_change_54 : decode cX4_change 54 = .ok (.invokevirtual 97, 3) := by decide +kernel
theorem dX4_change_57 : decode cX4_change 57 = .ok (.iload 5, 2) := by decide +kernel
theorem dX4_change_59 : decode cX4_change 59 = .ok (.ireturn, 1) := by decide +kernel
theorem dX4_go_0 : decode cX4_go 0 = .ok (.iload_n 1, 1) := by decide +kernel
theorem dX4_go_1 : decode cX4_go 1 = .ok (.iconst 1, 1) := by decide +kernel
theorem dX4_go_2 : decode cX4_go 2 = .ok (.bipush 60, 2) := by decide +kernel
theorem dX4_go_4 : decode cX4_go 4 = .ok (.invokestatic 56, 3) := by decide +kernel
theorem dX4_go_7 : decode cX4_go 7 = .ok (.ifCond .ne 10, 3) := by decide +kernel
theorem dX4_go_10 : decode cX4_go 10 = .ok (.aload_n 0, 1) := by decide +kernel
theorem dX4_go_11 : decode cX4_go 11 = .ok (.ldc 48, 2) := by decide +kernel
theorem dX4_go_13 : decode cX4_go 13 = .ok (.invokevirtual 49, 3) := by decide +kernel
theorem dX4_go_16 : decode cX4_go 16 = .ok (.ireturn, 1) := by decide +kernel
theorem dX4_go_17 : decode cX4_go 17 = .ok (.aload_n 0, 1) := by decide +kernel
theorem dX4_go_18 : decode cX4_go 18 = .ok (.getfield 12, 3) := by decide +kernel
theorem dX4_go_21 : decode cX4_go 21 = .ok (.getfield 101, 3) := by decide +kernel
theorem dX4_go_24 : decode cX4_go 24 = .ok (.iload_n 1, 1) := by decide +kernel
theorem dX4_go_25 : decode cX4_go 25 = .ok (.iadd, 1) := by decide +kernel
theorem dX4_go_26 : decode cX4_go 26 = .ok (.ldc 105, 2) := by decide +kernel
theorem dX4_go_28 : decode cX4_go 28 = .ok (.if_icmp .le 10, 3) := by decide +kernel
theorem dX4_go_31 : decode cX4_go 31 = .ok (.aload_n 0, 1) := by decide +kernel
theorem dX4_go_32 : decode cX4_go 32 = .ok (.ldc 106, 2) := by decide +kernel
theorem dX4_go_34 : decode cX4_go 34 = .ok (.invokevirtual 49, 3) := by decide +kernel
theorem dX4_go_37 : decode cX4_go 37 = .ok (.ireturn, 1) := by decide +kernel
theorem dX4_go_38 : decode cX4_go 38 = .ok (.aload_n 0, 1) := by decide +kernel
theorem dX4_go_39 : decode cX4_go 39 = .ok (.getfield 12, 3) := by decide +kernel
theorem dX4_go_42 : decode cX4_go 42 = .ok (.iload_n 1, 1) := by decide +kernel
theorem dX4_go_43 : decode cX4_go 43 = .ok (.invokevirtual 107, 3) := by decide +kernel
theorem dX4_go_46 : decode cX4_go 46 = .ok (.aload_n 0, 1) := by decide +kernel
theorem dX4_go_47 : decode cX4_go 47 = .ok (.getfield 12, 3) := by decide +kernel
theorem dX4_go_50 : decode cX4_go 50 = .ok (.invokevirtual 111, 3) := by decide +kernel
theorem dX4_go_53 : decode cX4_go 53 = .ok (.ireturn, 1) := by decide +kernel
theorem dX4_now_0 : decode cX4_now 0 = .ok (.iload_n 1, 1) := by decide +kernel
theorem dX4_now_1 : decode cX4_now 1 = .ok (.tableswitch 133 0 7 #[47, 55, 63, 71, 86, 101, 116, 125], 47) := by decide +kernel
theorem dX4_now_48 : decode cX4_now 48 = .ok (.aload_n 0, 1) := by decide +kernel
theorem dX4_now_49 : decode cX4_now 49 = .ok (.getfield 12, 3) := by decide +kernel
theorem dX4_now_52 : decode cX4_now 52 = .ok (.getfield 101, 3) := by decide +kernel
theorem dX4_now_55 : decode cX4_now 55 = .ok (.ireturn, 1) := by decide +kernel
theorem dX4_now_56 : decode cX4_now 56 = .ok (.aload_n 0, 1) := by decide +kernel
theorem dX4_now_57 : decode cX4_now 57 = .ok (.getfield 12, 3) := by decide +kernel
theorem dX4_now_60 : decode cX4_now 60 = .ok (.invokevirtual 111, 3) := by decide +kernel
theorem dX4_now_63 : decode cX4_now 63 = .ok (.ireturn, 1) := by decide +kernel
theorem dX4_now_64 : decode cX4_now 64 = .ok (.aload_n 0, 1) := by decide +kernel
theorem dX4_now_65 : decode cX4_now 65 = .ok (.getfield 12, 3) := by decide +kernel
theorem dX4_now_68 : decode cX4_now 68 = .ok (.invokevirtual 114, 3) := by decide +kernel
theorem dX4_now_71 : decode cX4_now 71 = .ok (.ireturn, 1) := by decide +kernel
theorem dX4_now_72 : decode cX4_now 72 = .ok (.aload_n 0, 1) := by decide +kernel
theorem dX4_now_73 : decode cX4_now 73 = .ok (.getfield 12, 3) := by decide +kernel
theorem dX4_now_76 : decode cX4_now 76 = .ok (.invokevirtual 117, 3) := by decide +kernel
theorem dX4_now_79 : decode cX4_now 79 = .ok (.aload_n 0, 1) := by decide +kernel
theorem dX4_now_80 : decode cX4_now 80 = .ok (.getfield 12, 3) := by decide +kernel
theorem dX4_now_83 : decode cX4_now 83 = .ok (.getfield 120, 3) := by decide +kernel
theorem dX4_now_86 : decode cX4_now 86 = .ok (.ireturn, 1) := by decide +kernel
theorem dX4_now_87 : decode cX4_now 87 = .ok (.aload_n 0, 1) := by decide +kernel
theorem dX4_now_88 : decode cX4_now 88 = .ok (.getfield 12, 3) := by decide +kernel
theorem dX4_now_91 : decode cX4_now 91 = .ok (.invokevirtual 117, 3) := by decide +kernel
theorem dX4_now_94 : decode cX4_now 94 = .ok (.aload_n 0, 1) := by decide +kernel
theorem dX4_now_95 : decode cX4_now 95 = .ok (.getfield 12, 3) := by decide +kernel
theorem dX4_now_98 : decode cX4_now 98 = .ok (.getfield 123, 3) := by decide +kernel
theorem dX4_now_101 : decode cX4_now 101 = .ok (.ireturn, 1) := by decide +kernel
theorem dX4_now_102 : decode cX4_now 102 = .ok (.aload_n 0, 1) := by decide +kernel
theorem dX4_now_103 : decode cX4_now 103 = .ok (.getfield 12, 3) := by decide +kernel
theorem dX4_now_106 : decode cX4_now 106 = .ok (.invokevirtual 117, 3) := by decide +kernel
theorem dX4_now_109 : decode cX4_now 109 = .ok (.aload_n 0, 1) := by decide +kernel
theorem dX4_now_110 : decode cX4_now 110 = .ok (.getfield 12, 3) := by decide +kernel
theorem dX4_now_113 : decode cX4_now 113 = .ok (.getfield 126, 3) := by decide +kernel
theorem dX4_now_116 : decode cX4_now 116 = .ok (.ireturn, 1) := by decide +kernel
theorem dX4_now_117 : decode cX4_now 117 = .ok (.aload_n 0, 1) := by decide +kernel
theorem dX4_now_118 : decode cX4_now 118 = .ok (.getfield 12, 3) := by decide +kernel
theorem dX4_now_121 : decode cX4_now 121 = .ok (.iconst 0, 1) := by decide +kernel
theorem dX4_now_122 : decode cX4_now 122 = .ok (.invokevirtual 129, 3) := by decide +kernel
theorem dX4_now_125 : decode cX4_now 125 = .ok (.ireturn, 1) := by decide +kernel
theorem dX4_now_126 : decode cX4_now 126 = .ok (.aload_n 0, 1) := by decide +kernel
theorem dX4_now_127 : decode cX4_now 127 = .ok (.getfield 12, 3) := by decide +kernel
theorem dX4_now_130 : decode cX4_now 130 = .ok (.invokevirtual 132, 3) := by decide +kernel
theorem dX4_now_133 : decode cX4_now 133 = .ok (.ireturn, 1) := by decide +kernel
theorem dX4_now_134 : decode cX4_now 134 = .ok (.aload_n 0, 1) := by decide +kernel
theorem dX4_now_135 : decode cX4_now 135 = .ok (.ldc 48, 2) := by decide +kernel
theorem dX4_now_137 : decode cX4_now 137 = .ok (.invokevirtual 49, 3) := by decide +kernel
theorem dX4_now_140 : decode cX4_now 140 = .ok (.ireturn, 1) := by decide +kernel
theorem dX4_ahead_0 : decode cX4_ahead 0 = .ok (.iload_n 2, 1) := by decide +kernel
theorem dX4_ahead_1 : decode cX4_ahead 1 = .ok (.iconst 1, 1) := by decide +kernel
theorem dX4_ahead_2 : decode cX4_ahead 2 = .ok (.if_icmp .eq 13, 3) := by decide +kernel
theorem dX4_ahead_5 : decode cX4_ahead 5 = .ok (.iload_n 2, 1) := by decide +kernel
theorem dX4_ahead_6 : decode cX4_ahead 6 = .ok (.iconst 3, 1) := by decide +kernel
theorem dX4_ahead_7 : decode cX4_ahead 7 = .ok (.if_icmp .eq 8, 3) := by decide +kernel
theorem dX4_ahead_10 : decode cX4_ahead 10 = .ok (.iload_n 2, 1) := by decide +kernel
theorem dX4_ahead_11 : decode cX4_ahead 11 = .ok (.iconst 4, 1) := by decide +kernel
theorem dX4_ahead_12 : decode cX4_ahead 12 = .ok (.if_icmp .ne 7, 3) := by decide +kernel
theorem dX4_ahead_15 : decode cX4_ahead 15 = .ok (.iconst 1, 1) := by decide +kernel
theorem dX4_ahead_16 : decode cX4_ahead 16 = .ok (.goto 4, 3) := by decide +kernel
theorem dX4_ahead_19 : decode cX4_ahead 19 = .ok (.iconst 0, 1) := by decide +kernel
theorem dX4_ahead_20 : decode cX4_ahead 20 = .ok (.istore 4, 2) := by decide +kernel
theorem dX4_ahead_22 : decode cX4_ahead 22 = .ok (.aload_n 0, 1) := by decide +kernel
theorem dX4_ahead_23 : decode cX4_ahead 23 = .ok (.getfield 12, 3) := by decide +kernel
theorem dX4_ahead_26 : decode cX4_ahead 26 = .ok (.iload_n 1, 1) := by decide +kernel
theorem dX4_ahead_27 : decode cX4_ahead 27 = .ok (.invokevirtual 67, 3) := by decide +kernel
theorem dX4_ahead_30 : decode cX4_ahead 30 = .ok (.ifCond .eq 18, 3) := by decide +kernel
theorem dX4_ahead_33 : decode cX4_ahead 33 = .ok (.iload 4, 2) := by decide +kernel
theorem dX4_ahead_35 : decode cX4_ahead 35 = .ok (.ifCond .eq 13, 3) := by decide +kernel
theorem dX4_ahead_38 : decode cX4_ahead 38 = .ok (.iload_n 3, 1) := by decide +kernel
theorem dX4_ahead_39 : decode cX4_ahead 39 = .ok (.iconst 0, 1) := by decide +kernel
theorem dX4_ahead_40 : decode cX4_ahead 40 = .ok (.bipush 100, 2) := by decide +kernel
theorem dX4_ahead_42 : decode cX4_ahead 42 = .ok (.invokestatic 56, 3) := by decide +kernel
theorem dX4_ahead_45 : decode cX4_ahead 45 = .ok (.ifCond .ne 10, 3) := by decide +kernel
theorem dX4_ahead_48 : decode cX4_ahead 48 = .ok (.aload_n 0, 1) := by decide +kernel
theorem dX4_ahead_49 : decode cX4_ahead 49 = .ok (.ldc 48, 2) := by decide +kernel
theorem dX4_ahead_51 : decode cX4_ahead 51 = .ok (.invokevirtual 49, 3) := by decide +kernel
theorem dX4_ahead_54 : decode cX4_ahead 54 = .ok (.ireturn, 1) := by decide +kernel
theorem dX4_ahead_55 : decode cX4_ahead 55 = .ok (.aload_n 0, 1) := by decide +kernel
theorem dX4_ahead_56 : decode cX4_ahead 56 = .ok (.invokevirtual 135, 3) := by decide +kernel
theorem dX4_ahead_59 : decode cX4_ahead 59 = .ok (.aload_n 0, 1) := by decide +kernel
theorem dX4_ahead_60 : decode cX4_ahead 60 = .ok (.getfield 16, 3) := by decide +kernel
theorem dX4_ahead_63 : decode cX4_ahead 63 = .ok (.iload_n 3, 1) := by decide +kernel
theorem dX4_ahead_64 : decode cX4_ahead 64 = .ok (.invokevirtual 107, 3) := by decide +kernel
theorem dX4_ahead_67 : decode cX4_ahead 67 = .ok (.aload_n 0, 1) := by decide +kernel
theorem dX4_ahead_68 : decode cX4_ahead 68 = .ok (.getfield 16, 3) := by decide +kernel
theorem dX4_ahead_71 : decode cX4_ahead 71 = .ok (.getfield 71, 3) := by decide +kernel
theorem dX4_ahead_74 : decode cX4_ahead 74 = .ok (.iload_n 1, 1) := by decide +kernel
theorem dX4_ahead_75 : decode cX4_ahead 75 = .ok (.aaload, 1) := by decide +kernel
theorem dX4_ahead_76 : decode cX4_ahead 76 = .ok (.iload_n 2, 1) := by decide +kernel
theorem dX4_ahead_77 : decode cX4_ahead 77 = .ok (.invokevirtual 75, 3) := by decide +kernel
theorem dX4_ahead_80 : decode cX4_ahead 80 = .ok (.ireturn, 1) := by decide +kernel
theorem dX4_glad_0 : decode cX4_glad 0 = .ok (.aload_n 0, 1) := by decide +kernel
theorem dX4_glad_1 : decode cX4_glad 1 = .ok (.getfield 12, 3) := by decide +kernel
theorem dX4_glad_4 : decode cX4_glad 4 = .ok (.iload_n 1, 1) := by decide +kernel
theorem dX4_glad_5 : decode cX4_glad 5 = .ok (.invokevirtual 67, 3) := by decide +kernel
theorem dX4_glad_8 : decode cX4_glad 8 = .ok (.ifCond .eq 13, 3) := by decide +kernel
theorem dX4_glad_11 : decode cX4_glad 11 = .ok (.iload_n 2, 1) := by decide +kernel
theorem dX4_glad_12 : decode cX4_glad 12 = .ok (.iconst 0, 1) := by decide +kernel
theorem dX4_glad_13 : decode cX4_glad 13 = .ok (.bipush 99, 2) := by decide +kernel
theorem dX4_glad_15 : decode cX4_glad 15 = .ok (.invokestatic 56, 3) := by decide +kernel
theorem dX4_glad_18 : decode cX4_glad 18 = .ok (.ifCond .ne 10, 3) := by decide +kernel
theorem dX4_glad_21 : decode cX4_glad 21 = .ok (.aload_n 0, 1) := by decide +kernel
theorem dX4_glad_22 : decode cX4_glad 22 = .ok (.ldc 48, 2) := by decide +kernel
theorem dX4_glad_24 : decode cX4_glad 24 = .ok (.invokevirtual 49, 3) := by decide +kernel
theorem dX4_glad_27 : decode cX4_glad 27 = .ok (.ireturn, 1) := by decide +kernel
theorem dX4_glad_28 : decode cX4_glad 28 = .ok (.aload_n 0, 1) := by decide +kernel
theorem dX4_glad_29 : decode cX4_glad 29 = .ok (.iload_n 1, 1) := by decide +kernel
theorem dX4_glad_30 : decode cX4_glad 30 = .ok (.iconst 0, 1) := by decide +kernel
theorem dX4_glad_31 : decode cX4_glad 31 = .ok (.iload_n 2, 1) := by decide +kernel
theorem dX4_glad_32 : decode cX4_glad 32 = .ok (.invokevirtual 138, 3) := by decide +kernel
theorem dX4_glad_35 : decode cX4_glad 35 = .ok (.ireturn, 1) := by decide +kernel
theorem dX4_sad_0 : decode cX4_sad 0 = .ok (.aload_n 0, 1) := by decide +kernel
theorem dX4_sad_1 : decode cX4_sad 1 = .ok (.getfield 12, 3) := by decide +kernel
theorem dX4_sad_4 : decode cX4_sad 4 = .ok (.iload_n 1, 1) := by decide +kernel
theorem dX4_sad_5 : decode cX4_sad 5 = .ok (.invokevirtual 67, 3) := by decide +kernel
theorem dX4_sad_8 : decode cX4_sad 8 = .ok (.ifCond .eq 13, 3) := by decide +kernel
theorem dX4_sad_11 : decode cX4_sad 11 = .ok (.iload_n 2, 1) := by decide +kernel
theorem dX4_sad_12 : decode cX4_sad 12 = .ok (.iconst 0, 1) := by decide +kernel
theorem dX4_sad_13 : decode cX4_sad 13 = .ok (.bipush 99, 2) := by decide +kernel
theorem dX4_sad_15 : decode cX4_sad 15 = .ok (.invokestatic 56, 3) := by decide +kernel
theorem dX4_sad_18 : decode cX4_sad 18 = .ok (.ifCond .ne 10, 3) := by decide +kernel
theorem dX4_sad_21 : decode cX4_sad 21 = .ok (.aload_n 0, 1) := by decide +kernel
theorem dX4_sad_22 : decode cX4_sad 22 = .ok (.ldc 48, 2) := by decide +kernel
theorem dX4_sad_24 : decode cX4_sad 24 = .ok (.invokevirtual 49, 3) := by decide +kernel
theorem dX4_sad_27 : decode cX4_sad 27 = .ok (.ireturn, 1) := by decide +kernel
theorem dX4_sad_28 : decode cX4_sad 28 = .ok (.aload_n 0, 1) := by decide +kernel
theorem dX4_sad_29 : decode cX4_sad 29 = .ok (.iload_n 1, 1) := by decide +kernel
theorem dX4_sad_30 : decode cX4_sad 30 = .ok (.iconst 1, 1) := by decide +kernel
theorem dX4_sad_31 : decode cX4_sad 31 = .ok (.iload_n 2, 1) := by decide +kernel
theorem dX4_sad_32 : decode cX4_sad 32 = .ok (.invokevirtual 138, 3) := by decide +kernel
theorem dX4_sad_35 : decode cX4_sad 35 = .ok (.ireturn, 1) := by decide +kernel
theorem dX4_when_0 : decode cX4_when 0 = .ok (.aload_n 0, 1) := by decide +kernel
theorem dX4_when_1 : decode cX4_when 1 = .ok (.getfield 12, 3) := by decide +kernel
theorem dX4_when_4 : decode cX4_when 4 = .ok (.iload_n 1, 1) := by decide +kernel
theorem dX4_when_5 : decode cX4_when 5 = .ok (.invokevirtual 67, 3) := by decide +kernel
theorem dX4_when_8 : decode cX4_when 8 = .ok (.ifCond .eq 14, 3) := by decide +kernel
theorem dX4_when_11 : decode cX4_when 11 = .ok (.iload_n 2, 1) := by decide +kernel
theorem dX4_when_12 : decode cX4_when 12 = .ok (.iconst 0, 1) := by decide +kernel
theorem dX4_when_13 : decode cX4_when 13 = .ok (.sipush 9999, 3) := by decide +kernel
theorem dX4_when_16 : decode cX4_when 16 = .ok (.invokestatic 56, 3) := by decide +kernel
theorem dX4_when_19 : decode cX4_when 19 = .ok (.ifCond .ne 10, 3) := by decide +kernel
theorem dX4_when_22 : decode cX4_when 22 = .ok (.aload_n 0, 1) := by decide +kernel
theorem dX4_when_23 : decode cX4_when 23 = .ok (.ldc 48, 2) := by decide +kernel
theorem dX4_when_25 : decode cX4_when 25 = .ok (.invokevirtual 49, 3) := by decide +kernel
theorem dX4_when_28 : decode cX4_when 28 = .ok (.ireturn, 1) := by decide +kernel
theorem dX4_when_29 : decode cX4_when 29 = .ok (.aload_n 0, 1) := by decide +kernel
theorem dX4_when_30 : decode cX4_when 30 = .ok (.iload_n 1, 1) := by decide +kernel
theorem dX4_when_31 : decode cX4_when 31 = .ok (.iconst 2, 1) := by decide +kernel
theorem dX4_when_32 : decode cX4_when 32 = .ok (.iload_n 2, 1) := by decide +kernel
theorem dX4_when_33 : decode cX4_when 33 = .ok (.invokevirtual 138, 3) := by decide +kernel
theorem dX4_when_36 : decode cX4_when 36 = .ok (.ireturn, 1) := by decide +kernel
theorem dX4_well_0 : decode cX4_well 0 = .ok (.aload_n 0, 1) := by decide +kernel
theorem dX4_well_1 : decode cX4_well 1 = .ok (.invokevirtual 135, 3) := by decide +kernel
theorem dX4_well_4 : decode cX4_well 4 = .ok (.iconst 0, 1) := by decide +kernel
theorem dX4_well_5 : decode cX4_well 5 = .ok (.istore_n 1, 1) := by decide +kernel
theorem dX4_well_6 : decode cX4_well 6 = .ok (.iload_n 1, 1) := by decide +kernel
theorem dX4_well_7 : decode cX4_well 7 = .ok (.sipush 200, 3) := by decide +kernel
theorem dX4_well_10 : decode cX4_well 10 = .ok (.if_icmp .gt 38, 3) := by decide +kernel
theorem dX4_well_13 : decode cX4_well 13 = .ok (.aload_n 0, 1) := by decide +kernel
theorem dX4_well_14 : decode cX4_well 14 = .ok (.getfield 16, 3) := by decide +kernel
theorem dX4_well_17 : decode cX4_well 17 = .ok (.invokevirtual 114, 3) := by decide +kernel
theorem dX4_well_20 : decode cX4_well 20 = .ok (.invokestatic 142, 3) := by decide +kernel
theorem dX4_well_23 : decode cX4_well 23 = .ok (.aload_n 0, 1) := by decide +kernel
theorem dX4_well_24 : decode cX4_well 24 = .ok (.getfield 16, 3) := by decide +kernel
theorem dX4_well_27 : decode cX4_well 27 = .ok (.getfield 147, 3) := by decide +kernel
theorem dX4_well_30 : decode cX4_well 30 = .ok (.if_icmp .ne 5, 3) := by decide +kernel
theorem dX4_well_33 : decode cX4_well 33 = .ok (.iload_n 1, 1) := by decide +kernel
theorem dX4_well_34 : decode cX4_well 34 = .ok (.ireturn, 1) := by decide +kernel
theorem dX4_well_35 : decode cX4_well 35 = .ok (.aload_n 0, 1) := by decide +kernel
theorem dX4_well_36 : decode cX4_well 36 = .ok (.getfield 16, 3) := by decide +kernel
theorem dX4_well_39 : decode cX4_well 39 = .ok (.invokevirtual 150, 3) := by decide +kernel
theorem dX4_well_42 : decode cX4_well 42 = .ok (.iinc 1 1, 3) := by decide +kernel
theorem dX4_well_45 : decode cX4_well 45 = .ok (.goto (-39), 3) := by decide +kernel
theorem dX4_well_48 : decode cX4_well 48 = .ok (.aload_n 0, 1) := by decide +kernel
theorem dX4_well_49 : decode cX4_well 49 = .ok (.ldc 153, 2) := by decide +kernel
theorem dX4_well_51 : decode cX4_well 51 = .ok (.invokevirtual 49, 3) := by decide +kernel
theorem dX4_well_54 : decode cX4_well 54 = .ok (.ireturn, 1) := by decide +kernel
theorem dX4_longFor_0 : decode cX4_longFor 0 = .ok (.iload_n 1, 1) := by decide +kernel
theorem dX4_longFor_1 : decode cX4_longFor 1 = .ok (.iconst 0, 1) := by decide +kernel
theorem dX4_longFor_2 : decode cX4_longFor 2 = .ok (.bipush 40, 2) := by decide +kernel
theorem dX4_longFor_4 : decode cX4_longFor 4 = .ok (.invokestatic 56, 3) := by decide +kernel
theorem dX4_longFor_7 : decode cX4_longFor 7 = .ok (.ifCond .ne 10, 3) := by decide +kernel
theorem dX4_longFor_10 : decode cX4_longFor 10 = .ok (.aload_n 0, 1) := by decide +kernel
theorem dX4_longFor_11 : decode cX4_longFor 11 = .ok (.ldc 48, 2) := by decide +kernel
theorem dX4_longFor_13 : decode cX4_longFor 13 = .ok (.invokevirtual 49, 3) := by decide +kernel
theorem dX4_longFor_16 : decode cX4_longFor 16 = .ok (.ireturn, 1) := by decide +kernel
theorem dX4_longFor_17 : decode cX4_longFor 17 = .ok (.iconst 3, 1) := by decide +kernel
theorem dX4_longFor_18 : decode cX4_longFor 18 = .ok (.invokestatic 154, 3) := by decide +kernel
theorem dX4_longFor_21 : decode cX4_longFor 21 = .ok (.istore_n 2, 1) := by decide +kernel
theorem dX4_longFor_22 : decode cX4_longFor 22 = .ok (.iconst (-1), 1) := by decide +kernel
theorem dX4_longFor_23 : decode cX4_longFor 23 = .ok (.istore_n 3, 1) := by decide +kernel
theorem dX4_longFor_24 : decode cX4_longFor 24 = .ok (.iconst 3, 1) := by decide +kernel
theorem dX4_longFor_25 : decode cX4_longFor 25 = .ok (.invokestatic 154, 3) := by decide +kernel
theorem dX4_longFor_28 : decode cX4_longFor 28 = .ok (.istore 4, 2) := by decide +kernel
theorem dX4_longFor_30 : decode cX4_longFor 30 = .ok (.iload 4, 2) := by decide +kernel
theorem dX4_longFor_32 : decode cX4_longFor 32 = .ok (.iconst 3, 1) := by decide +kernel
theorem dX4_longFor_33 : decode cX4_longFor 33 = .ok (.invokestatic 157, 3) := by decide +kernel
theorem dX4_longFor_36 : decode cX4_longFor 36 = .ok (.if_icmp .gt 38, 3) := by decide +kernel
theorem dX4_longFor_39 : decode cX4_longFor 39 = .ok (.aload_n 0, 1) := by decide +kernel
theorem dX4_longFor_40 : decode cX4_longFor 40 = .ok (.iconst 3, 1) := by decide +kernel
theorem dX4_longFor_41 : decode cX4_longFor 41 = .ok (.iload 4, 2) := by decide +kernel
theorem dX4_longFor_43 : decode cX4_longFor 43 = .ok (.iload_n 1, 1) := by decide +kernel
theorem dX4_longFor_44 : decode cX4_longFor 44 = .ok (.invokevirtual 160, 3) := by decide +kernel
theorem dX4_longFor_47 : decode cX4_longFor 47 = .ok (.aload_n 0, 1) := by decide +kernel
theorem dX4_longFor_48 : decode cX4_longFor 48 = .ok (.getfield 16, 3) := by decide +kernel
theorem dX4_longFor_51 : decode cX4_longFor 51 = .ok (.invokevirtual 111, 3) := by decide +kernel
theorem dX4_longFor_54 : decode cX4_longFor 54 = .ok (.istore 5, 2) := by decide +kernel
theorem dX4_longFor_56 : decode cX4_longFor 56 = .ok (.iload 5, 2) := by decide +kernel
theorem dX4_longFor_58 : decode cX4_longFor 58 = .ok (.iload_n 3, 1) := by decide +kernel
theorem dX4_longFor_59 : decode cX4_longFor 59 = .ok (.if_icmp .le 9, 3) := by decide +kernel
theorem dX4_longFor_62 : decode cX4_longFor 62 = .ok (.iload 5, 2) := by decide +kernel
theorem dX4_longFor_64 : decode cX4_longFor 64 = .ok (.istore_n 3, 1) := by decide +kernel
theorem dX4_longFor_65 : decode cX4_longFor 65 = .ok (.iload 4, 2) := by decide +kernel
theorem dX4_longFor_67 : decode cX4_longFor 67 = .ok (.istore_n 2, 1) := by decide +kernel
theorem dX4_longFor_68 : decode cX4_longFor 68 = .ok (.iinc 4 1, 3) := by decide +kernel
theorem dX4_longFor_71 : decode cX4_longFor 71 = .ok (.goto (-41), 3) := by decide +kernel
theorem dX4_longFor_74 : decode cX4_longFor 74 = .ok (.iload_n 2, 1) := by decide +kernel
theorem dX4_longFor_75 : decode cX4_longFor 75 = .ok (.ireturn, 1) := by decide +kernel
theorem dX4_chairsFor_0 : decode cX4_chairsFor 0 = .ok (.iload_n 1, 1) := by decide +kernel
theorem dX4_chairsFor_1 : decode cX4_chairsFor 1 = .ok (.iconst 0, 1) := by decide +kernel
theorem dX4_chairsFor_2 : decode cX4_chairsFor 2 = .ok (.sipush 9999, 3) := by decide +kernel
theorem dX4_chairsFor_5 : decode cX4_chairsFor 5 = .ok (.invokestatic 56, 3) := by decide +kernel
theorem dX4_chairsFor_8 : decode cX4_chairsFor 8 = .ok (.ifCond .eq 13, 3) := by decide +kernel
theorem dX4_chairsFor_11 : decode cX4_chairsFor 11 = .ok (.iload_n 2, 1) := by decide +kernel
theorem dX4_chairsFor_12 : decode cX4_chairsFor 12 = .ok (.iconst 0, 1) := by decide +kernel
theorem dX4_chairsFor_13 : decode cX4_chairsFor 13 = .ok (.bipush 40, 2) := by decide +kernel
theorem dX4_chairsFor_15 : decode cX4_chairsFor 15 = .ok (.invokestatic 56, 3) := by decide +kernel
theorem dX4_chairsFor_18 : decode cX4_chairsFor 18 = .ok (.ifCond .ne 10, 3) := by decide +kernel
theorem dX4_chairsFor_21 : decode cX4_chairsFor 21 = .ok (.aload_n 0, 1) := by decide +kernel
theorem dX4_chairsFor_22 : decode cX4_chairsFor 22 = .ok (.ldc 48, 2) := by decide +kernel
theorem dX4_chairsFor_24 : decode cX4_chairsFor 24 = .ok (.invokevirtual 49, 3) := by decide +kernel
theorem dX4_chairsFor_27 : decode cX4_chairsFor 27 = .ok (.ireturn, 1) := by decide +kernel
theorem dX4_chairsFor_28 : decode cX4_chairsFor 28 = .ok (.iconst 0, 1) := by decide +kernel
theorem dX4_chairsFor_29 : decode cX4_chairsFor 29 = .ok (.invokestatic 154, 3) := by decide +kernel
theorem dX4_chairsFor_32 : decode cX4_chairsFor 32 = .ok (.istore_n 3, 1) := by decide +kernel
theorem dX4_chairsFor_33 : decode cX4_chairsFor 33 = .ok (.iload_n 3, 1) := by decide +kernel
theorem dX4_chairsFor_34 : decode cX4_chairsFor 34 = .ok (.iconst 0, 1) := by decide +kernel
theorem dX4_chairsFor_35 : decode cX4_chairsFor 35 = .ok (.invokestatic 157, 3) := by decide +kernel
theorem dX4_chairsFor_38 : decode cX4_chairsFor 38 = .ok (.if_icmp .gt 29, 3) := by decide +kernel
theorem dX4_chairsFor_41 : decode cX4_chairsFor 41 = .ok (.aload_n 0, 1) := by decide +kernel
theorem dX4_chairsFor_42 : decode cX4_chairsFor 42 = .ok (.iconst 0, 1) := by decide +kernel
theorem dX4_chairsFor_43 : decode cX4_chairsFor 43 = .ok (.iload_n 3, 1) := by decide +kernel
theorem dX4_chairsFor_44 : decode cX4_chairsFor 44 = .ok (.iload_n 2, 1) := by decide +kernel
theorem dX4_chairsFor_45 : decode cX4_chairsFor 45 = .ok (.invokevirtual 160, 3) := by decide +kernel
theorem dX4_chairsFor_48 : decode cX4_chairsFor 48 = .ok (.aload_n 0, 1) := by decide +kernel
theorem dX4_chairsFor_49 : decode cX4_chairsFor 49 = .ok (.getfield 16, 3) := by decide +kernel
theorem dX4_chairsFor_52 : decode cX4_chairsFor 52 = .ok (.invokevirtual 132, 3) := by decide +kernel
theorem dX4_chairsFor_55 : decode cX4_chairsFor 55 = .ok (.iload_n 1, 1) := by decide +kernel
theorem dX4_chairsFor_56 : decode cX4_chairsFor 56 = .ok (.if_icmp .lt 5, 3) := by decide +kernel
theorem dX4_chairsFor_59 : decode cX4_chairsFor 59 = .ok (.iload_n 3, 1) := by decide +kernel
theorem dX4_chairsFor_60 : decode cX4_chairsFor 60 = .ok (.ireturn, 1) := by decide +kernel
theorem dX4_chairsFor_61 : decode cX4_chairsFor 61 = .ok (.iinc 3 1, 3) := by decide +kernel
theorem dX4_chairsFor_64 : decode cX4_chairsFor 64 = .ok (.goto (-31), 3) := by decide +kernel
theorem dX4_chairsFor_67 : decode cX4_chairsFor 67 = .ok (.aload_n 0, 1) := by decide +kernel
theorem dX4_chairsFor_68 : decode cX4_chairsFor 68 = .ok (.ldc 153, 2) := by decide +kernel
theorem dX4_chairsFor_70 : decode cX4_chairsFor 70 = .ok (.invokevirtual 49, 3) := by decide +kernel
theorem dX4_chairsFor_73 : decode cX4_chairsFor 73 = .ok (.ireturn, 1) := by decide +kernel
theorem dX4_volunteersFor_0 : decode cX4_volunteersFor 0 = .ok (.iload_n 1, 1) := by decide +kernel
theorem dX4_volunteersFor_1 : decode cX4_volunteersFor 1 = .ok (.iconst 0, 1) := by decide +kernel
theorem dX4_volunteersFor_2 : decode cX4_volunteersFor 2 = .ok (.bipush 99, 2) := by decide +kernel
theorem dX4_volunteersFor_4 : decode cX4_volunteersFor 4 = .ok (.invokestatic 56, 3) := by decide +kernel
theorem dX4_volunteersFor_7 : decode cX4_volunteersFor 7 = .ok (.ifCond .eq 13, 3) := by decide +kernel
theorem dX4_volunteersFor_10 : decode cX4_volunteersFor 10 = .ok (.iload_n 2, 1) := by decide +kernel
theorem dX4_volunteersFor_11 : decode cX4_volunteersFor 11 = .ok (.iconst 0, 1) := by decide +kernel
theorem dX4_volunteersFor_12 : decode cX4_volunteersFor 12 = .ok (.bipush 40, 2) := by decide +kernel
theorem dX4_volunteersFor_14 : decode cX4_volunteersFor 14 = .ok (.invokestatic 56, 3) := by decide +kernel
theorem dX4_volunteersFor_17 : decode cX4_volunteersFor 17 = .ok (.ifCond .ne 10, 3) := by decide +kernel
theorem dX4_volunteersFor_20 : decode cX4_volunteersFor 20 = .ok (.aload_n 0, 1) := by decide +kernel
theorem dX4_volunteersFor_21 : decode cX4_volunteersFor 21 = .ok (.ldc 48, 2) := by decide +kernel
theorem dX4_volunteersFor_23 : decode cX4_volunteersFor 23 = .ok (.invokevirtual 49, 3) := by decide +kernel
theorem dX4_volunteersFor_26 : decode cX4_volunteersFor 26 = .ok (.ireturn, 1) := by decide +kernel
theorem dX4_volunteersFor_27 : decode cX4_volunteersFor 27 = .ok (.iconst 2, 1) := by decide +kernel
theorem dX4_volunteersFor_28 : decode cX4_volunteersFor 28 = .ok (.invokestatic 154, 3) := by decide +kernel
theorem dX4_volunteersFor_31 : decode cX4_volunteersFor 31 = .ok (.istore_n 3, 1) := by decide +kernel
theorem dX4_volunteersFor_32 : decode cX4_volunteersFor 32 = .ok (.iload_n 3, 1) := by decide +kernel
theorem dX4_volunteersFor_33 : decode cX4_volunteersFor 33 = .ok (.iconst 2, 1) := by decide +kernel
theorem dX4_volunteersFor_34 : decode cX4_volunteersFor 34 = .ok (.invokestatic 157, 3) := by decide +kernel
theorem dX4_volunteersFor_37 : decode cX4_volunteersFor 37 = .ok (.if_icmp .gt 29, 3) := by decide +kernel
theorem dX4_volunteersFor_40 : decode cX4_volunteersFor 40 = .ok (.aload_n 0, 1) := by decide +kernel
theorem dX4_volunteersFor_41 : decode cX4_volunteersFor 41 = .ok (.iconst 2, 1) := by decide +kernel
theorem dX4_volunteersFor_42 : decode cX4_volunteersFor 42 = .ok (.iload_n 3, 1) := by decide +kernel
theorem dX4_volunteersFor_43 : decode cX4_volunteersFor 43 = .ok (.iload_n 2, 1) := by decide +kernel
theorem dX4_volunteersFor_44 : decode cX4_volunteersFor 44 = .ok (.invokevirtual 160, 3) := by decide +kernel
theorem dX4_volunteersFor_47 : decode cX4_volunteersFor 47 = .ok (.aload_n 0, 1) := by decide +kernel
theorem dX4_volunteersFor_48 : decode cX4_volunteersFor 48 = .ok (.getfield 16, 3) := by decide +kernel
theorem dX4_volunteersFor_51 : decode cX4_volunteersFor 51 = .ok (.invokevirtual 164, 3) := by decide +kernel
theorem dX4_volunteersFor_54 : decode cX4_volunteersFor 54 = .ok (.iload_n 1, 1) := by decide +kernel
theorem dX4_volunteersFor_55 : decode cX4_volunteersFor 55 = .ok (.if_icmp .lt 5, 3) := by decide +kernel
theorem dX4_volunteersFor_58 : decode cX4_volunteersFor 58 = .ok (.iload_n 3, 1) := by decide +kernel
theorem dX4_volunteersFor_59 : decode cX4_volunteersFor 59 = .ok (.ireturn, 1) := by decide +kernel
theorem dX4_volunteersFor_60 : decode cX4_volunteersFor 60 = .ok (.iinc 3 1, 3) := by decide +kernel
theorem dX4_volunteersFor_63 : decode cX4_volunteersFor 63 = .ok (.goto (-31), 3) := by decide +kernel
theorem dX4_volunteersFor_66 : decode cX4_volunteersFor 66 = .ok (.aload_n 0, 1) := by decide +kernel
theorem dX4_volunteersFor_67 : decode cX4_volunteersFor 67 = .ok (.ldc 153, 2) := by decide +kernel
theorem dX4_volunteersFor_69 : decode cX4_volunteersFor 69 = .ok (.invokevirtual 49, 3) := by decide +kernel
theorem dX4_volunteersFor_72 : decode cX4_volunteersFor 72 = .ok (.ireturn, 1) := by decide +kernel
theorem dX4_comeOn_0 : decode cX4_comeOn 0 = .ok (.aload_n 0, 1) := by decide +kernel
theorem dX4_comeOn_1 : decode cX4_comeOn 1 = .ok (.iconst 0, 1) := by decide +kernel
theorem dX4_comeOn_2 : decode cX4_comeOn 2 = .ok (.bipush 6, 2) := by decide +kernel
theorem dX4_comeOn_4 : decode cX4_comeOn 4 = .ok (.iload_n 1, 1) := by decide +kernel
theorem dX4_comeOn_5 : decode cX4_comeOn 5 = .ok (.iload_n 2, 1) := by decide +kernel
theorem dX4_comeOn_6 : decode cX4_comeOn 6 = .ok (.invokevirtual 167, 3) := by decide +kernel
theorem dX4_comeOn_9 : decode cX4_comeOn 9 = .ok (.ireturn, 1) := by decide +kernel
theorem dX4_kindFor_0 : decode cX4_kindFor 0 = .ok (.aload_n 0, 1) := by decide +kernel
theorem dX4_kindFor_1 : decode cX4_kindFor 1 = .ok (.iconst 1, 1) := by decide +kernel
theorem dX4_kindFor_2 : decode cX4_kindFor 2 = .ok (.bipush 7, 2) := by decide +kernel
theorem dX4_kindFor_4 : decode cX4_kindFor 4 = .ok (.iload_n 1, 1) := by decide +kernel
theorem dX4_kindFor_5 : decode cX4_kindFor 5 = .ok (.iload_n 2, 1) := by decide +kernel
theorem dX4_kindFor_6 : decode cX4_kindFor 6 = .ok (.invokevirtual 167, 3) := by decide +kernel
theorem dX4_kindFor_9 : decode cX4_kindFor 9 = .ok (.ireturn, 1) := by decide +kernel
theorem dX4_friendFor_0 : decode cX4_friendFor 0 = .ok (.aload_n 0, 1) := by decide +kernel
theorem dX4_friendFor_1 : decode cX4_friendFor 1 = .ok (.iconst 2, 1) := by decide +kernel
theorem dX4_friendFor_2 : decode cX4_friendFor 2 = .ok (.aload_n 0, 1) := by decide +kernel
theorem dX4_friendFor_3 : decode cX4_friendFor 3 = .ok (.getfield 12, 3) := by decide +kernel
theorem dX4_friendFor_6 : decode cX4_friendFor 6 = .ok (.getfield 147, 3) := by decide +kernel
theorem dX4_friendFor_9 : decode cX4_friendFor 9 = .ok (.iload_n 1, 1) := by decide +kernel
theorem dX4_friendFor_10 : decode cX4_friendFor 10 = .ok (.iload_n 2, 1) := by decide +kernel
theorem dX4_friendFor_11 : decode cX4_friendFor 11 = .ok (.invokevirtual 167, 3) := by decide +kernel
theorem dX4_friendFor_14 : decode cX4_friendFor 14 = .ok (.istore_n 3, 1) := by decide +kernel
theorem dX4_friendFor_15 : decode cX4_friendFor 15 = .ok (.iload_n 3, 1) := by decide +kernel
theorem dX4_friendFor_16 : decode cX4_friendFor 16 = .ok (.ifCond .ge 7, 3) := by decide +kernel
theorem dX4_friendFor_19 : decode cX4_friendFor 19 = .ok (.iload_n 3, 1) := by decide +kernel
theorem dX4_friendFor_20 : decode cX4_friendFor 20 = .ok (.goto 9, 3) := by decide +kernel
theorem dX4_friendFor_23 : decode cX4_friendFor 23 = .ok (.aload_n 0, 1) := by decide +kernel
theorem dX4_friendFor_24 : decode cX4_friendFor 24 = .ok (.iload_n 3, 1) := by decide +kernel
theorem dX4_friendFor_25 : decode cX4_friendFor 25 = .ok (.iload_n 1, 1) := by decide +kernel
theorem dX4_friendFor_26 : decode cX4_friendFor 26 = .ok (.invokevirtual 171, 3) := by decide +kernel
theorem dX4_friendFor_29 : decode cX4_friendFor 29 = .ok (.ireturn, 1) := by decide +kernel
theorem dX4_away_0 : decode cX4_away 0 = .ok (.aload_n 0, 1) := by decide +kernel
theorem dX4_away_1 : decode cX4_away 1 = .ok (.getfield 12, 3) := by decide +kernel
theorem dX4_away_4 : decode cX4_away 4 = .ok (.iload_n 1, 1) := by decide +kernel
theorem dX4_away_5 : decode cX4_away 5 = .ok (.invokevirtual 67, 3) := by decide +kernel
theorem dX4_away_8 : decode cX4_away 8 = .ok (.ifCond .eq 13, 3) := by decide +kernel
theorem dX4_away_11 : decode cX4_away 11 = .ok (.iload_n 2, 1) := by decide +kernel
theorem dX4_away_12 : decode cX4_away 12 = .ok (.iconst 0, 1) := by decide +kernel
theorem dX4_away_13 : decode cX4_away 13 = .ok (.bipush 20, 2) := by decide +kernel
theorem dX4_away_15 : decode cX4_away 15 = .ok (.invokestatic 56, 3) := by decide +kernel
theorem dX4_away_18 : decode cX4_away 18 = .ok (.ifCond .ne 10, 3) := by decide +kernel
theorem dX4_away_21 : decode cX4_away 21 = .ok (.aload_n 0, 1) := by decide +kernel
theorem dX4_away_22 : decode cX4_away 22 = .ok (.ldc 48, 2) := by decide +kernel
theorem dX4_away_24 : decode cX4_away 24 = .ok (.invokevirtual 49, 3) := by decide +kernel
theorem dX4_away_27 : decode cX4_away 27 = .ok (.ireturn, 1) := by decide +kernel
theorem dX4_away_28 : decode cX4_away 28 = .ok (.ldc 153, 2) := by decide +kernel
theorem dX4_away_30 : decode cX4_away 30 = .ok (.istore_n 3, 1) := by decide +kernel
theorem dX4_away_31 : decode cX4_away 31 = .ok (.bipush 8, 2) := by decide +kernel
theorem dX4_away_33 : decode cX4_away 33 = .ok (.istore 4, 2) := by decide +kernel
theorem dX4_away_35 : decode cX4_away 35 = .ok (.iconst 0, 1) := by decide +kernel
theorem dX4_away_36 : decode cX4_away 36 = .ok (.istore 5, 2) := by decide +kernel
theorem dX4_away_38 : decode cX4_away 38 = .ok (.iload 5, 2) := by decide +kernel
theorem dX4_away_40 : decode cX4_away 40 = .ok (.iconst 1, 1) := by decide +kernel
theorem dX4_away_41 : decode cX4_away 41 = .ok (.aload_n 0, 1) := by decide +kernel
theorem dX4_away_42 : decode cX4_away 42 = .ok (.getfield 12, 3) := by decide +kernel
theorem dX4_away_45 : decode cX4_away 45 = .ok (.getfield 147, 3) := by decide +kernel
theorem dX4_away_48 : decode cX4_away 48 = .ok (.ishl, 1) := by decide +kernel
theorem dX4_away_49 : decode cX4_away 49 = .ok (.if_icmp .ge 77, 3) := by decide +kernel
theorem dX4_away_52 : decode cX4_away 52 = .ok (.iload 5, 2) := by decide +kernel
theorem dX4_away_54 : decode cX4_away 54 = .ok (.iload_n 1, 1) := by decide +kernel
theorem dX4_away_55 : decode cX4_away 55 = .ok (.invokestatic 175, 3) := by decide +kernel
theorem dX4_away_58 : decode cX4_away 58 = .ok (.ifCond .ne 62, 3) := by decide +kernel
theorem dX4_away_61 : decode cX4_away 61 = .ok (.iload 5, 2) := by decide +kernel
theorem dX4_away_63 : decode cX4_away 63 = .ok (.invokestatic 142, 3) := by decide +kernel
theorem dX4_away_66 : decode cX4_away 66 = .ok (.iload 4, 2) := by decide +kernel
theorem dX4_away_68 : decode cX4_away 68 = .ok (.if_icmp .lt 6, 3) := by decide +kernel
theorem dX4_away_71 : decode cX4_away 71 = .ok (.goto 49, 3) := by decide +kernel
theorem dX4_away_74 : decode cX4_away 74 = .ok (.aload_n 0, 1) := by decide +kernel
theorem dX4_away_75 : decode cX4_away 75 = .ok (.invokevirtual 135, 3) := by decide +kernel
theorem dX4_away_78 : decode cX4_away 78 = .ok (.aload_n 0, 1) := by decide +kernel
theorem dX4_away_79 : decode cX4_away 79 = .ok (.getfield 16, 3) := by decide +kernel
theorem dX4_away_82 : decode cX4_away 82 = .ok (.iload 5, 2) := by decide +kernel
theorem dX4_away_84 : decode cX4_away 84 = .ok (.invokevirtual 178, 3) := by decide +kernel
theorem dX4_away_87 : decode cX4_away 87 = .ok (.aload_n 0, 1) := by decide +kernel
theorem dX4_away_88 : decode cX4_away 88 = .ok (.getfield 16, 3) := by decide +kernel
theorem dX4_away_91 : decode cX4_away 91 = .ok (.iload_n 2, 1) := by decide +kernel
theorem dX4_away_92 : decode cX4_away 92 = .ok (.invokevirtual 107, 3) := by decide +kernel
theorem dX4_away_95 : decode cX4_away 95 = .ok (.aload_n 0, 1) := by decide +kernel
theorem dX4_away_96 : decode cX4_away 96 = .ok (.getfield 16, 3) := by decide +kernel
theorem dX4_away_99 : decode cX4_away 99 = .ok (.getfield 71, 3) := by decide +kernel
theorem dX4_away_102 : decode cX4_away 102 = .ok (.iload_n 1, 1) := by decide +kernel
theorem dX4_away_103 : decode cX4_away 103 = .ok (.aaload, 1) := by decide +kernel
theorem dX4_away_104 : decode cX4_away 104 = .ok (.invokevirtual 181, 3) := by decide +kernel
theorem dX4_away_107 : decode cX4_away 107 = .ok (.ifCond .eq 13, 3) := by decide +kernel
theorem dX4_away_110 : decode cX4_away 110 = .ok (.iload 5, 2) := by decide +kernel
theorem dX4_away_112 : decode cX4_away 112 = .ok (.istore_n 3, 1) := by decide +kernel
theorem dX4_away_113 : decode cX4_away 113 = .ok (.iload 5, 2) := by decide +kernel
theorem dX4_away_115 : decode cX4_away 115 = .ok (.invokestatic 142, 3) := by decide +kernel
theorem dX4_away_118 : decode cX4_away 118 = .ok (.istore 4, 2) := by decide +kernel
theorem dX4_away_120 : decode cX4_away 120 = .ok (.iinc 5 1, 3) := by decide +kernel
theorem dX4_away_123 : decode cX4_away 123 = .ok (.goto (-85), 3) := by decide +kernel
theorem dX4_away_126 : decode cX4_away 126 = .ok (.iload_n 3, 1) := by decide +kernel
theorem dX4_away_127 : decode cX4_away 127 = .ok (.ldc 153, 2) := by decide +kernel
theorem dX4_away_129 : decode cX4_away 129 = .ok (.if_icmp .ne 12, 3) := by decide +kernel
theorem dX4_away_132 : decode cX4_away 132 = .ok (.aload_n 0, 1) := by decide +kernel
theorem dX4_away_133 : decode cX4_away 133 = .ok (.ldc 153, 2) := by decide +kernel
theorem dX4_away_135 : decode cX4_away 135 = .ok (.invokevirtual 49, 3) := by decide +kernel
theorem dX4_away_138 : decode cX4_away 138 = .ok (.goto 4, 3) := by decide +kernel
theorem dX4_away_141 : decode cX4_away 141 = .ok (.iload_n 3, 1) := by decide +kernel
theorem dX4_away_142 : decode cX4_away 142 = .ok (.ireturn, 1) := by decide +kernel
theorem dX4_fits_0 : decode cX4_fits 0 = .ok (.aload_n 0, 1) := by decide +kernel
theorem dX4_fits_1 : decode cX4_fits 1 = .ok (.iload_n 1, 1) := by decide +kernel
theorem dX4_fits_2 : decode cX4_fits 2 = .ok (.iload_n 2, 1) := by decide +kernel
theorem dX4_fits_3 : decode cX4_fits 3 = .ok (.invokevirtual 184, 3) := by decide +kernel
theorem dX4_fits_6 : decode cX4_fits 6 = .ok (.istore_n 3, 1) := by decide +kernel
theorem dX4_fits_7 : decode cX4_fits 7 = .ok (.iload_n 3, 1) := by decide +kernel
theorem dX4_fits_8 : decode cX4_fits 8 = .ok (.ifCond .eq 9, 3) := by decide +kernel
theorem dX4_fits_11 : decode cX4_fits 11 = .ok (.aload_n 0, 1) := by decide +kernel
theorem dX4_fits_12 : decode cX4_fits 12 = .ok (.iload_n 3, 1) := by decide +kernel
theorem dX4_fits_13 : decode cX4_fits 13 = .ok (.invokevirtual 49, 3) := by decide +kernel
theorem dX4_fits_16 : decode cX4_fits 16 = .ok (.ireturn, 1) := by decide +kernel
theorem dX4_fits_17 : decode cX4_fits 17 = .ok (.iconst 0, 1) := by decide +kernel
theorem dX4_fits_18 : decode cX4_fits 18 = .ok (.istore 4, 2) := by decide +kernel
theorem dX4_fits_20 : decode cX4_fits 20 = .ok (.iconst 0, 1) := by decide +kernel
theorem dX4_fits_21 : decode cX4_fits 21 = .ok (.istore 5, 2) := by decide +kernel
theorem dX4_fits_23 : decode cX4_fits 23 = .ok (.iload 5, 2) := by decide +kernel
theorem dX4_fits_25 : decode cX4_fits 25 = .ok (.bipush 99, 2) := by decide +kernel
theorem dX4_fits_27 : decode cX4_fits 27 = .ok (.if_icmp .gt 28, 3) := by decide +kernel
theorem dX4_fits_30 : decode cX4_fits 30 = .ok (.aload_n 0, 1) := by decide +kernel
theorem dX4_fits_31 : decode cX4_fits 31 = .ok (.aload_n 0, 1) := by decide +kernel
theorem dX4_fits_32 : decode cX4_fits 32 = .ok (.getfield 35, 3) := by decide +kernel
theorem dX4_fits_35 : decode cX4_fits 35 = .ok (.iload_n 1, 1) := by decide +kernel
theorem dX4_fits_36 : decode cX4_fits 36 = .ok (.aaload, 1) := by decide +kernel
theorem dX4_fits_37 : decode cX4_fits 37 = .ok (.iload_n 2, 1) := by decide +kernel
theorem dX4_fits_38 : decode cX4_fits 38 = .ok (.iload 5, 2) := by decide +kernel
theorem dX4_fits_40 : decode cX4_fits 40 = .ok (.invokevirtual 187, 3) := by decide +kernel
theorem dX4_fits_43 : decode cX4_fits 43 = .ok (.ifCond .eq 6, 3) := by decide +kernel
theorem dX4_fits_46 : decode cX4_fits 46 = .ok (.iinc 4 1, 3) := by decide +kernel
theorem dX4_fits_49 : decode cX4_fits 49 = .ok (.iinc 5 1, 3) := by decide +kernel
theorem dX4_fits_52 : decode cX4_fits 52 = .ok (.goto (-29), 3) := by decide +kernel
theorem dX4_fits_55 : decode cX4_fits 55 = .ok (.iload 4, 2) := by decide +kernel
theorem dX4_fits_57 : decode cX4_fits 57 = .ok (.ireturn, 1) := by decide +kernel
theorem dX4_mood_0 : decode cX4_mood 0 = .ok (.aload_n 0, 1) := by decide +kernel
theorem dX4_mood_1 : decode cX4_mood 1 = .ok (.iload_n 1, 1) := by decide +kernel
theorem dX4_mood_2 : decode cX4_mood 2 = .ok (.iload_n 2, 1) := by decide +kernel
theorem dX4_mood_3 : decode cX4_mood 3 = .ok (.invokevirtual 184, 3) := by decide +kernel
theorem dX4_mood_6 : decode cX4_mood 6 = .ok (.istore_n 3, 1) := by decide +kernel
theorem dX4_mood_7 : decode cX4_mood 7 = .ok (.iload_n 3, 1) := by decide +kernel
theorem dX4_mood_8 : decode cX4_mood 8 = .ok (.ifCond .eq 9, 3) := by decide +kernel
theorem dX4_mood_11 : decode cX4_mood 11 = .ok (.aload_n 0, 1) := by decide +kernel
theorem dX4_mood_12 : decode cX4_mood 12 = .ok (.iload_n 3, 1) := by decide +kernel
theorem dX4_mood_13 : decode cX4_mood 13 = .ok (.invokevirtual 49, 3) := by decide +kernel
theorem dX4_mood_16 : decode cX4_mood 16 = .ok (.ireturn, 1) := by decide +kernel
theorem dX4_mood_17 : decode cX4_mood 17 = .ok (.iconst 0, 1) := by decide +kernel
theorem dX4_mood_18 : decode cX4_mood 18 = .ok (.istore 4, 2) := by decide +kernel
theorem dX4_mood_20 : decode cX4_mood 20 = .ok (.iload 4, 2) := by decide +kernel
theorem dX4_mood_22 : decode cX4_mood 22 = .ok (.bipush 99, 2) := by decide +kernel
theorem dX4_mood_24 : decode cX4_mood 24 = .ok (.if_icmp .gt 28, 3) := by decide +kernel
theorem dX4_mood_27 : decode cX4_mood 27 = .ok (.aload_n 0, 1) := by decide +kernel
theorem dX4_mood_28 : decode cX4_mood 28 = .ok (.aload_n 0, 1) := by decide +kernel
theorem dX4_mood_29 : decode cX4_mood 29 = .ok (.getfield 35, 3) := by decide +kernel
theorem dX4_mood_32 : decode cX4_mood 32 = .ok (.iload_n 1, 1) := by decide +kernel
theorem dX4_mood_33 : decode cX4_mood 33 = .ok (.aaload, 1) := by decide +kernel
theorem dX4_mood_34 : decode cX4_mood 34 = .ok (.iload_n 2, 1) := by decide +kernel
theorem dX4_mood_35 : decode cX4_mood 35 = .ok (.iload 4, 2) := by decide +kernel
theorem dX4_mood_37 : decode cX4_mood 37 = .ok (.invokevirtual 187, 3) := by decide +kernel
theorem dX4_mood_40 : decode cX4_mood 40 = .ok (.ifCond .eq 6, 3) := by decide +kernel
theorem dX4_mood_43 : decode cX4_mood 43 = .ok (.iload 4, 2) := by decide +kernel
theorem dX4_mood_45 : decode cX4_mood 45 = .ok (.ireturn, 1) := by decide +kernel
theorem dX4_mood_46 : decode cX4_mood 46 = .ok (.iinc 4 1, 3) := by decide +kernel
theorem dX4_mood_49 : decode cX4_mood 49 = .ok (.goto (-29), 3) := by decide +kernel
theorem dX4_mood_52 : decode cX4_mood 52 = .ok (.aload_n 0, 1) := by decide +kernel
theorem dX4_mood_53 : decode cX4_mood 53 = .ok (.ldc 153, 2) := by decide +kernel
theorem dX4_mood_55 : decode cX4_mood 55 = .ok (.invokevirtual 49, 3) := by decide +kernel
theorem dX4_mood_58 : decode cX4_mood 58 = .ok (.ireturn, 1) := by decide +kernel
theorem dX4_kinds_0 : decode cX4_kinds 0 = .ok (.aload_n 0, 1) := by decide +kernel
theorem dX4_kinds_1 : decode cX4_kinds 1 = .ok (.iload_n 1, 1) := by decide +kernel
theorem dX4_kinds_2 : decode cX4_kinds 2 = .ok (.iload_n 2, 1) := by decide +kernel
theorem dX4_kinds_3 : decode cX4_kinds 3 = .ok (.invokevirtual 184, 3) := by decide +kernel
theorem dX4_kinds_6 : decode cX4_kinds 6 = .ok (.istore_n 3, 1) := by decide +kernel
theorem dX4_kinds_7 : decode cX4_kinds 7 = .ok (.iload_n 3, 1) := by decide +kernel
theorem dX4_kinds_8 : decode cX4_kinds 8 = .ok (.ifCond .eq 9, 3) := by decide +kernel
theorem dX4_kinds_11 : decode cX4_kinds 11 = .ok (.aload_n 0, 1) := by decide +kernel
theorem dX4_kinds_12 : decode cX4_kinds 12 = .ok (.iload_n 3, 1) := by decide +kernel
theorem dX4_kinds_13 : decode cX4_kinds 13 = .ok (.invokevirtual 49, 3) := by decide +kernel
theorem dX4_kinds_16 : decode cX4_kinds 16 = .ok (.ireturn, 1) := by decide +kernel
theorem dX4_kinds_17 : decode cX4_kinds 17 = .ok (.iconst 0, 1) := by decide +kernel
theorem dX4_kinds_18 : decode cX4_kinds 18 = .ok (.istore 4, 2) := by decide +kernel
theorem dX4_kinds_20 : decode cX4_kinds 20 = .ok (.iconst 0, 1) := by decide +kernel
theorem dX4_kinds_21 : decode cX4_kinds 21 = .ok (.istore 5, 2) := by decide +kernel
theorem dX4_kinds_23 : decode cX4_kinds 23 = .ok (.iload 5, 2) := by decide +kernel
theorem dX4_kinds_25 : decode cX4_kinds 25 = .ok (.bipush 7, 2) := by decide +kernel
theorem dX4_kinds_27 : decode cX4_kinds 27 = .ok (.if_icmp .ge 34, 3) := by decide +kernel
theorem dX4_kinds_30 : decode cX4_kinds 30 = .ok (.aload_n 0, 1) := by decide +kernel
theorem dX4_kinds_31 : decode cX4_kinds 31 = .ok (.aload_n 0, 1) := by decide +kernel
theorem dX4_kinds_32 : decode cX4_kinds 32 = .ok (.getfield 35, 3) := by decide +kernel
theorem dX4_kinds_35 : decode cX4_kinds 35 = .ok (.iload_n 1, 1) := by decide +kernel
theorem dX4_kinds_36 : decode cX4_kinds 36 = .ok (.aaload, 1) := by decide +kernel
theorem dX4_kinds_37 : decode cX4_kinds 37 = .ok (.iload_n 2, 1) := by decide +kernel
theorem dX4_kinds_38 : decode cX4_kinds 38 = .ok (.iload 5, 2) := by decide +kernel
theorem dX4_kinds_40 : decode cX4_kinds 40 = .ok (.invokevirtual 191, 3) := by decide +kernel
theorem dX4_kinds_43 : decode cX4_kinds 43 = .ok (.ifCond .eq 12, 3) := by decide +kernel
theorem dX4_kinds_46 : decode cX4_kinds 46 = .ok (.iload 4, 2) := by decide +kernel
theorem dX4_kinds_48 : decode cX4_kinds 48 = .ok (.iconst 1, 1) := by decide +kernel
theorem dX4_kinds_49 : decode cX4_kinds 49 = .ok (.iload 5, 2) := by decide +kernel
theorem dX4_kinds_51 : decode cX4_kinds 51 = .ok (.ishl, 1) := by decide +kernel
theorem dX4_kinds_52 : decode cX4_kinds 52 = .ok (.ior, 1) := by decide +kernel
theorem dX4_kinds_53 : decode cX4_kinds 53 = .ok (.istore 4, 2) := by decide +kernel
theorem dX4_kinds_55 : decode cX4_kinds 55 = .ok (.iinc 5 1, 3) := by decide +kernel
theorem dX4_kinds_58 : decode cX4_kinds 58 = .ok (.goto (-35), 3) := by decide +kernel
theorem dX4_kinds_61 : decode cX4_kinds 61 = .ok (.iload 4, 2) := by decide +kernel
theorem dX4_kinds_63 : decode cX4_kinds 63 = .ok (.ireturn, 1) := by decide +kernel
theorem dX4_come_0 : decode cX4_come 0 = .ok (.iload_n 1, 1) := by decide +kernel
theorem dX4_come_1 : decode cX4_come 1 = .ok (.iconst 1, 1) := by decide +kernel
theorem dX4_come_2 : decode cX4_come 2 = .ok (.bipush 20, 2) := by decide +kernel
theorem dX4_come_4 : decode cX4_come 4 = .ok (.invokestatic 56, 3) := by decide +kernel
theorem dX4_come_7 : decode cX4_come 7 = .ok (.ifCond .ne 10, 3) := by decide +kernel
theorem dX4_come_10 : decode cX4_come 10 = .ok (.aload_n 0, 1) := by decide +kernel
theorem dX4_come_11 : decode cX4_come 11 = .ok (.ldc 48, 2) := by decide +kernel
theorem dX4_come_13 : decode cX4_come 13 = .ok (.invokevirtual 49, 3) := by decide +kernel
theorem dX4_come_16 : decode cX4_come 16 = .ok (.ireturn, 1) := by decide +kernel
theorem dX4_come_17 : decode cX4_come 17 = .ok (.aload_n 0, 1) := by decide +kernel
theorem dX4_come_18 : decode cX4_come 18 = .ok (.getfield 12, 3) := by decide +kernel
theorem dX4_come_21 : decode cX4_come 21 = .ok (.getfield 101, 3) := by decide +kernel
theorem dX4_come_24 : decode cX4_come 24 = .ok (.iload_n 1, 1) := by decide +kernel
theorem dX4_come_25 : decode cX4_come 25 = .ok (.iadd, 1) := by decide +kernel
theorem dX4_come_26 : decode cX4_come 26 = .ok (.ldc 105, 2) := by decide +kernel
theorem dX4_come_28 : decode cX4_come 28 = .ok (.if_icmp .le 10, 3) := by decide +kernel
theorem dX4_come_31 : decode cX4_come 31 = .ok (.aload_n 0, 1) := by decide +kernel
theorem dX4_come_32 : decode cX4_come 32 = .ok (.ldc 106, 2) := by decide +kernel
theorem dX4_come_34 : decode cX4_come 34 = .ok (.invokevirtual 49, 3) := by decide +kernel
theorem dX4_come_37 : decode cX4_come 37 = .ok (.ireturn, 1) := by decide +kernel
theorem dX4_come_38 : decode cX4_come 38 = .ok (.iconst 0, 1) := by decide +kernel
theorem dX4_come_39 : decode cX4_come 39 = .ok (.istore_n 2, 1) := by decide +kernel
theorem dX4_come_40 : decode cX4_come 40 = .ok (.iload_n 2, 1) := by decide +kernel
theorem dX4_come_41 : decode cX4_come 41 = .ok (.iload_n 1, 1) := by decide +kernel
theorem dX4_come_42 : decode cX4_come 42 = .ok (.if_icmp .ge 66, 3) := by decide +kernel
theorem dX4_come_45 : decode cX4_come 45 = .ok (.aload_n 0, 1) := by decide +kernel
theorem dX4_come_46 : decode cX4_come 46 = .ok (.getfield 12, 3) := by decide +kernel
theorem dX4_come_49 : decode cX4_come 49 = .ok (.getfield 60, 3) := by decide +kernel
theorem dX4_come_52 : decode cX4_come 52 = .ok (.aload_n 0, 1) := by decide +kernel
theorem dX4_come_53 : decode cX4_come 53 = .ok (.getfield 12, 3) := by decide +kernel
theorem dX4_come_56 : decode cX4_come 56 = .ok (.getfield 101, 3) := by decide +kernel
theorem dX4_come_59 : decode cX4_come 59 = .ok (.bipush 6, 2) := by decide +kernel
theorem dX4_come_61 : decode cX4_come 61 = .ok (.irem, 1) := by decide +kernel
theorem dX4_come_62 : decode cX4_come 62 = .ok (.aload_n 0, 1) := by decide +kernel
theorem dX4_come_63 : decode cX4_come 63 = .ok (.getfield 12, 3) := by decide +kernel
theorem dX4_come_66 : decode cX4_come 66 = .ok (.invokevirtual 194, 3) := by decide +kernel
theorem dX4_come_69 : decode cX4_come 69 = .ok (.sipush 256, 3) := by decide +kernel
theorem dX4_come_72 : decode cX4_come 72 = .ok (.irem, 1) := by decide +kernel
theorem dX4_come_73 : decode cX4_come 73 = .ok (.iastore, 1) := by decide +kernel
theorem dX4_come_74 : decode cX4_come 74 = .ok (.aload_n 0, 1) := by decide +kernel
theorem dX4_come_75 : decode cX4_come 75 = .ok (.getfield 12, 3) := by decide +kernel
theorem dX4_come_78 : decode cX4_come 78 = .ok (.getfield 53, 3) := by decide +kernel
theorem dX4_come_81 : decode cX4_come 81 = .ok (.iconst 3, 1) := by decide +kernel
theorem dX4_come_82 : decode cX4_come 82 = .ok (.iconst 1, 1) := by decide +kernel
theorem dX4_come_83 : decode cX4_come 83 = .ok (.aload_n 0, 1) := by decide +kernel
theorem dX4_come_84 : decode cX4_come 84 = .ok (.getfield 12, 3) := by decide +kernel
theorem dX4_come_87 : decode cX4_come 87 = .ok (.invokevirtual 194, 3) := by decide +kernel
theorem dX4_come_90 : decode cX4_come 90 = .ok (.bipush 12, 2) := by decide +kernel
theorem dX4_come_92 : decode cX4_come 92 = .ok (.irem, 1) := by decide +kernel
theorem dX4_come_93 : decode cX4_come 93 = .ok (.iadd, 1) := by decide +kernel
theorem dX4_come_94 : decode cX4_come 94 = .ok (.iastore, 1) := by decide +kernel
theorem dX4_come_95 : decode cX4_come 95 = .ok (.aload_n 0, 1) := by decide +kernel
theorem dX4_come_96 : decode cX4_come 96 = .ok (.getfield 12, 3) := by decide +kernel
theorem dX4_come_99 : decode cX4_come 99 = .ok (.invokevirtual 150, 3) := by decide +kernel
theorem dX4_come_102 : decode cX4_come 102 = .ok (.iinc 2 1, 3) := by decide +kernel
theorem dX4_come_105 : decode cX4_come 105 = .ok (.goto (-65), 3) := by decide +kernel
theorem dX4_come_108 : decode cX4_come 108 = .ok (.aload_n 0, 1) := by decide +kernel
theorem dX4_come_109 : decode cX4_come 109 = .ok (.getfield 12, 3) := by decide +kernel
theorem dX4_come_112 : decode cX4_come 112 = .ok (.invokevirtual 111, 3) := by decide +kernel
theorem dX4_come_115 : decode cX4_come 115 = .ok (.ireturn, 1) := by decide +kernel
theorem dX4_odds_0 : decode cX4_odds 0 = .ok (.aload_n 0, 1) := by decide +kernel
theorem dX4_odds_1 : decode cX4_odds 1 = .ok (.getfield 12, 3) := by decide +kernel
theorem dX4_odds_4 : decode cX4_odds 4 = .ok (.iload_n 1, 1) := by decide +kernel
theorem dX4_odds_5 : decode cX4_odds 5 = .ok (.invokevirtual 67, 3) := by decide +kernel
theorem dX4_odds_8 : decode cX4_odds 8 = .ok (.ifCond .eq 22, 3) := by decide +kernel
theorem dX4_odds_11 : decode cX4_odds 11 = .ok (.iload_n 2, 1) := by decide +kernel
theorem dX4_odds_12 : decode cX4_odds 12 = .ok (.iconst 0, 1) := by decide +kernel
theorem dX4_odds_13 : decode cX4_odds 13 = .ok (.bipush 7, 2) := by decide +kernel
theorem dX4_odds_15 : decode cX4_odds 15 = .ok (.invokestatic 56, 3) := by decide +kernel
theorem dX4_odds_18 : decode cX4_odds 18 = .ok (.ifCond .eq 12, 3) := by decide +kernel
theorem dX4_odds_21 : decode cX4_odds 21 = .ok (.iload_n 3, 1) := by decide +kernel
theorem dX4_odds_22 : decode cX4_odds 22 = .ok (.iconst 0, 1) := by decide +kernel
theorem dX4_odds_23 : decode cX4_odds 23 = .ok (.iconst 1, 1) := by decide +kernel
theorem dX4_odds_24 : decode cX4_odds 24 = .ok (.invokestatic 56, 3) := by decide +kernel
theorem dX4_odds_27 : decode cX4_odds 27 = .ok (.ifCond .ne 11, 3) := by decide +kernel
theorem dX4_odds_30 : decode cX4_odds 30 = .ok (.aload_n 0, 1) := by decide +kernel
theorem dX4_odds_31 : decode cX4_odds 31 = .ok (.ldc 48, 2) := by decide +kernel
theorem dX4_odds_33 : decode cX4_odds 33 = .ok (.invokevirtual 49, 3) := by decide +kernel
theorem dX4_odds_36 : decode cX4_odds 36 = .ok (.i2l, 1) := by decide +kernel
theorem dX4_odds_37 : decode cX4_odds 37 = .ok (.lreturn, 1) := by decide +kernel
theorem dX4_odds_38 : decode cX4_odds 38 = .ok (.iconst 0, 1) := by decide +kernel
theorem dX4_odds_39 : decode cX4_odds 39 = .ok (.istore 4, 2) := by decide +kernel
theorem dX4_odds_41 : decode cX4_odds 41 = .ok (.iconst 0, 1) := by decide +kernel
theorem dX4_odds_42 : decode cX4_odds 42 = .ok (.istore 5, 2) := by decide +kernel
theorem dX4_odds_44 : decode cX4_odds 44 = .ok (.iload 5, 2) := by decide +kernel
theorem dX4_odds_46 : decode cX4_odds 46 = .ok (.sipush 256, 3) := by decide +kernel
theorem dX4_odds_49 : decode cX4_odds 49 = .ok (.if_icmp .ge 28, 3) := by decide +kernel
theorem dX4_odds_52 : decode cX4_odds 52 = .ok (.aload_n 0, 1) := by decide +kernel
theorem dX4_odds_53 : decode cX4_odds 53 = .ok (.getfield 12, 3) := by decide +kernel
theorem dX4_odds_56 : decode cX4_odds 56 = .ok (.iload 5, 2) := by decide +kernel
theorem dX4_odds_58 : decode cX4_odds 58 = .ok (.invokevirtual 197, 3) := by decide +kernel
theorem dX4_odds_61 : decode cX4_odds 61 = .ok (.iload_n 1, 1) := by decide +kernel
theorem dX4_odds_62 : decode cX4_odds 62 = .ok (.invokestatic 175, 3) := by decide +kernel
theorem dX4_odds_65 : decode cX4_odds 65 = .ok (.ifCond .eq 6, 3) := by decide +kernel
theorem dX4_odds_68 : decode cX4_odds 68 = .ok (.iinc 4 1, 3) := by decide +kernel
theorem dX4_odds_71 : decode cX4_odds 71 = .ok (.iinc 5 1, 3) := by decide +kernel
theorem dX4_odds_74 : decode cX4_odds 74 = .ok (.goto (-30), 3) := by decide +kernel
theorem dX4_odds_77 : decode cX4_odds 77 = .ok (.sipush 256, 3) := by decide +kernel
theorem dX4_odds_80 : decode cX4_odds 80 = .ok (.istore 5, 2) := by decide +kernel
theorem dX4_odds_82 : decode cX4_odds 82 = .ok (.iload 5, 2) := by decide +kernel
theorem dX4_odds_84 : decode cX4_odds 84 = .ok (.iconst 1, 1) := by decide +kernel
theorem dX4_odds_85 : decode cX4_odds 85 = .ok (.if_icmp .le 25, 3) := by decide +kernel
theorem dX4_odds_88 : decode cX4_odds 88 = .ok (.iload 4, 2) := by decide +kernel
theorem dX4_odds_90 : decode cX4_odds 90 = .ok (.iconst 2, 1) := by decide +kernel
theorem dX4_odds_91 : decode cX4_odds 91 = .ok (.irem, 1) := by decide +kernel
theorem dX4_odds_92 : decode cX4_odds 92 = .ok (.ifCond .ne 18, 3) := by decide +kernel
theorem dX4_odds_95 : decode cX4_odds 95 = .ok (.iload 4, 2) := by decide +kernel
theorem dX4_odds_97 : decode cX4_odds 97 = .ok (.iconst 2, 1) := by decide +kernel
theorem dX4_odds_98 : decode cX4_odds 98 = .ok (.idiv, 1) := by decide +kernel
theorem dX4_odds_99 : decode cX4_odds 99 = .ok (.istore 4, 2) := by decide +kernel
theorem dX4_odds_101 : decode cX4_odds 101 = .ok (.iload 5, 2) := by decide +kernel
theorem dX4_odds_103 : decode cX4_odds 103 = .ok (.iconst 2, 1) := by decide +kernel
theorem dX4_odds_104 : decode cX4_odds 104 = .ok (.idiv, 1) := by decide +kernel
theorem dX4_odds_105 : decode cX4_odds 105 = .ok (.istore 5, 2) := by decide +kernel
theorem dX4_odds_107 : decode cX4_odds 107 = .ok (.goto (-25), 3) := by decide +kernel
theorem dX4_odds_110 : decode cX4_odds 110 = .ok (.iload_n 3, 1) := by decide +kernel
theorem dX4_odds_111 : decode cX4_odds 111 = .ok (.ifCond .ne 8, 3) := by decide +kernel
theorem dX4_odds_114 : decode cX4_odds 114 = .ok (.iload 4, 2) := by decide +kernel
theorem dX4_odds_116 : decode cX4_odds 116 = .ok (.goto 5, 3) := by decide +kernel
theorem dX4_odds_119 : decode cX4_odds 119 = .ok (.iload 5, 2) := by decide +kernel
theorem dX4_odds_121 : decode cX4_odds 121 = .ok (.iload_n 2, 1) := by decide +kernel
theorem dX4_odds_122 : decode cX4_odds 122 = .ok (.invokestatic 200, 3) := by decide +kernel
theorem dX4_odds_125 : decode cX4_odds 125 = .ok (.lreturn, 1) := by decide +kernel
theorem dX4_seed_0 : decode cX4_seed 0 = .ok (.aload_n 0, 1) := by decide +kernel
theorem dX4_seed_1 : decode cX4_seed 1 = .ok (.getfield 12, 3) := by decide +kernel
theorem dX4_seed_4 : decode cX4_seed 4 = .ok (.getfield 204, 3) := by decide +kernel
theorem dX4_seed_7 : decode cX4_seed 7 = .ok (.istore_n 2, 1) := by decide +kernel
theorem dX4_seed_8 : decode cX4_seed 8 = .ok (.aload_n 0, 1) := by decide +kernel
theorem dX4_seed_9 : decode cX4_seed 9 = .ok (.getfield 12, 3) := by decide +kernel
theorem dX4_seed_12 : decode cX4_seed 12 = .ok (.iload_n 1, 1) := by decide +kernel
theorem dX4_seed_13 : decode cX4_seed 13 = .ok (.putfield 204, 3) := by decide +kernel
theorem dX4_seed_16 : decode cX4_seed 16 = .ok (.iload_n 2, 1) := by decide +kernel
theorem dX4_seed_17 : decode cX4_seed 17 = .ok (.ireturn, 1) := by decide +kernel
theorem dX4_feed_0 : decode cX4_feed 0 = .ok (.iload_n 2, 1) := by decide +kernel
theorem dX4_feed_1 : decode cX4_feed 1 = .ok (.iconst 1, 1) := by decide +kernel
theorem dX4_feed_2 : decode cX4_feed 2 = .ok (.iconst 4, 1) := by decide +kernel
theorem dX4_feed_3 : decode cX4_feed 3 = .ok (.invokestatic 56, 3) := by decide +kernel
theorem dX4_feed_6 : decode cX4_feed 6 = .ok (.ifCond .ne 10, 3) := by decide +kernel
theorem dX4_feed_9 : decode cX4_feed 9 = .ok (.aload_n 0, 1) := by decide +kernel
theorem dX4_feed_10 : decode cX4_feed 10 = .ok (.ldc 48, 2) := by decide +kernel
theorem dX4_feed_12 : decode cX4_feed 12 = .ok (.invokevirtual 49, 3) := by decide +kernel
theorem dX4_feed_15 : decode cX4_feed 15 = .ok (.ireturn, 1) := by decide +kernel
theorem dX4_feed_16 : decode cX4_feed 16 = .ok (.aload_n 0, 1) := by decide +kernel
theorem dX4_feed_17 : decode cX4_feed 17 = .ok (.getfield 29, 3) := by decide +kernel
theorem dX4_feed_20 : decode cX4_feed 20 = .ok (.getfield 207, 3) := by decide +kernel
theorem dX4_feed_23 : decode cX4_feed 23 = .ok (.iload_n 2, 1) := by decide +kernel
theorem dX4_feed_24 : decode cX4_feed 24 = .ok (.iadd, 1) := by decide +kernel
theorem dX4_feed_25 : decode cX4_feed 25 = .ok (.bipush 120, 2) := by decide +kernel
theorem dX4_feed_27 : decode cX4_feed 27 = .ok (.if_icmp .le 10, 3) := by decide +kernel
theorem dX4_feed_30 : decode cX4_feed 30 = .ok (.aload_n 0, 1) := by decide +kernel
theorem dX4_feed_31 : decode cX4_feed 31 = .ok (.ldc 66, 2) := by decide +kernel
theorem dX4_feed_33 : decode cX4_feed 33 = .ok (.invokevirtual 49, 3) := by decide +kernel
theorem dX4_feed_36 : decode cX4_feed 36 = .ok (.ireturn, 1) := by decide +kernel
theorem dX4_feed_37 : decode cX4_feed 37 = .ok (.iload_n 2, 1) := by decide +kernel
theorem dX4_feed_38 : decode cX4_feed 38 = .ok (.iconst 1, 1) := by decide +kernel
theorem dX4_feed_39 : decode cX4_feed 39 = .ok (.isub, 1) := by decide +kernel
theorem dX4_feed_40 : decode cX4_feed 40 = .ok (.istore_n 3, 1) := by decide +kernel
theorem dX4_feed_41 : decode cX4_feed 41 = .ok (.iload_n 3, 1) := by decide +kernel
theorem dX4_feed_42 : decode cX4_feed 42 = .ok (.ifCond .lt 26, 3) := by decide +kernel
theorem dX4_feed_45 : decode cX4_feed 45 = .ok (.aload_n 0, 1) := by decide +kernel
theorem dX4_feed_46 : decode cX4_feed 46 = .ok (.getfield 29, 3) := by decide +kernel
theorem dX4_feed_49 : decode cX4_feed 49 = .ok (.iload_n 1, 1) := by decide +kernel
theorem dX4_feed_50 : decode cX4_feed 50 = .ok (.bipush 8, 2) := by decide +kernel
theorem dX4_feed_52 : decode cX4_feed 52 = .ok (.iload_n 3, 1) := by decide +kernel
theorem dX4_feed_53 : decode cX4_feed 53 = .ok (.imul, 1) := by decide +kernel
theorem dX4_feed_54 : decode cX4_feed 54 = .ok (.iushr, 1) := by decide +kernel
theorem dX4_feed_55 : decode cX4_feed 55 = .ok (.sipush 255, 3) := by decide +kernel
theorem dX4_feed_58 : decode cX4_feed 58 = .ok (.iand, 1) := by decide +kernel
theorem dX4_feed_59 : decode cX4_feed 59 = .ok (.invokevirtual 210, 3) := by decide +kernel
theorem dX4_feed_62 : decode cX4_feed 62 = .ok (.iinc 3 (-1), 3) := by decide +kernel
theorem dX4_feed_65 : decode cX4_feed 65 = .ok (.goto (-24), 3) := by decide +kernel
theorem dX4_feed_68 : decode cX4_feed 68 = .ok (.aload_n 0, 1) := by decide +kernel
theorem dX4_feed_69 : decode cX4_feed 69 = .ok (.getfield 29, 3) := by decide +kernel
theorem dX4_feed_72 : decode cX4_feed 72 = .ok (.getfield 207, 3) := by decide +kernel
theorem dX4_feed_75 : decode cX4_feed 75 = .ok (.ireturn, 1) := by decide +kernel
theorem dX4_wipe_0 : decode cX4_wipe 0 = .ok (.aload_n 0, 1) := by decide +kernel
theorem dX4_wipe_1 : decode cX4_wipe 1 = .ok (.getfield 29, 3) := by decide +kernel
theorem dX4_wipe_4 : decode cX4_wipe 4 = .ok (.getfield 207, 3) := by decide +kernel
theorem dX4_wipe_7 : decode cX4_wipe 7 = .ok (.istore_n 1, 1) := by decide +kernel
theorem dX4_wipe_8 : decode cX4_wipe 8 = .ok (.aload_n 0, 1) := by decide +kernel
theorem dX4_wipe_9 : decode cX4_wipe 9 = .ok (.getfield 29, 3) := by decide +kernel
theorem dX4_wipe_12 : decode cX4_wipe 12 = .ok (.iconst 0, 1) := by decide +kernel
theorem dX4_wipe_13 : decode cX4_wipe 13 = .ok (.putfield 207, 3) := by decide +kernel
theorem dX4_wipe_16 : decode cX4_wipe 16 = .ok (.iload_n 1, 1) := by decide +kernel
theorem dX4_wipe_17 : decode cX4_wipe 17 = .ok (.ireturn, 1) := by decide +kernel
theorem dX4_text_0 : decode cX4_text 0 = .ok (.aload_n 0, 1) := by decide +kernel
theorem dX4_text_1 : decode cX4_text 1 = .ok (.invokevirtual 135, 3) := by decide +kernel
theorem dX4_text_4 : decode cX4_text 4 = .ok (.aload_n 0, 1) := by decide +kernel
theorem dX4_text_5 : decode cX4_text 5 = .ok (.getfield 29, 3) := by decide +kernel
theorem dX4_text_8 : decode cX4_text 8 = .ok (.aload_n 0, 1) := by decide +kernel
theorem dX4_text_9 : decode cX4_text 9 = .ok (.getfield 16, 3) := by decide +kernel
theorem dX4_text_12 : decode cX4_text 12 = .ok (.invokevirtual 213, 3) := by decide +kernel
theorem dX4_text_15 : decode cX4_text 15 = .ok (.istore_n 1, 1) := by decide +kernel
theorem dX4_text_16 : decode cX4_text 16 = .ok (.aload_n 0, 1) := by decide +kernel
theorem dX4_text_17 : decode cX4_text 17 = .ok (.getfield 29, 3) := by decide +kernel
theorem dX4_text_20 : decode cX4_text 20 = .ok (.iconst 0, 1) := by decide +kernel
theorem dX4_text_21 : decode cX4_text 21 = .ok (.putfield 207, 3) := by decide +kernel
theorem dX4_text_24 : decode cX4_text 24 = .ok (.iload_n 1, 1) := by decide +kernel
theorem dX4_text_25 : decode cX4_text 25 = .ok (.ifCond .le 14, 3) := by decide +kernel
theorem dX4_text_28 : decode cX4_text 28 = .ok (.aload_n 0, 1) := by decide +kernel
theorem dX4_text_29 : decode cX4_text 29 = .ok (.getfield 12, 3) := by decide +kernel
theorem dX4_text_32 : decode cX4_text 32 = .ok (.aload_n 0, 1) := by decide +kernel
theorem dX4_text_33 : decode cX4_text 33 = .ok (.getfield 16, 3) := by decide +kernel
theorem dX4_text_36 : decode cX4_text 36 = .ok (.invokevirtual 217, 3) := by decide +kernel
theorem dX4_text_39 : decode cX4_text 39 = .ok (.iload_n 1, 1) := by decide +kernel
theorem dX4_text_40 : decode cX4_text 40 = .ok (.ireturn, 1) := by decide +kernel
theorem dX4_hold_0 : decode cX4_hold 0 = .ok (.iload_n 1, 1) := by decide +kernel
theorem dX4_hold_1 : decode cX4_hold 1 = .ok (.iconst 0, 1) := by decide +kernel
theorem dX4_hold_2 : decode cX4_hold 2 = .ok (.bipush 9, 2) := by decide +kernel
theorem dX4_hold_4 : decode cX4_hold 4 = .ok (.invokestatic 56, 3) := by decide +kernel
theorem dX4_hold_7 : decode cX4_hold 7 = .ok (.ifCond .eq 19, 3) := by decide +kernel
theorem dX4_hold_10 : decode cX4_hold 10 = .ok (.iload_n 2, 1) := by decide +kernel
theorem dX4_hold_11 : decode cX4_hold 11 = .ok (.iconst (-1), 1) := by decide +kernel
theorem dX4_hold_12 : decode cX4_hold 12 = .ok (.if_icmp .eq 21, 3) := by decide +kernel
theorem dX4_hold_15 : decode cX4_hold 15 = .ok (.aload_n 0, 1) := by decide +kernel
theorem dX4_hold_16 : decode cX4_hold 16 = .ok (.getfield 12, 3) := by decide +kernel
theorem dX4_hold_19 : decode cX4_hold 19 = .ok (.iload_n 2, 1) := by decide +kernel
theorem dX4_hold_20 : decode cX4_hold 20 = .ok (.invokevirtual 67, 3) := by decide +kernel
theorem dX4_hold_23 : decode cX4_hold 23 = .ok (.ifCond .ne 10, 3) := by decide +kernel
theorem dX4_hold_26 : decode cX4_hold 26 = .ok (.aload_n 0, 1) := by decide +kernel
theorem dX4_hold_27 : decode cX4_hold 27 = .ok (.ldc 48, 2) := by decide +kernel
theorem dX4_hold_29 : decode cX4_hold 29 = .ok (.invokevirtual 49, 3) := by decide +kernel
theorem dX4_hold_32 : decode cX4_hold 32 = .ok (.ireturn, 1) := by decide +kernel
theorem dX4_hold_33 : decode cX4_hold 33 = .ok (.aload_n 0, 1) := by decide +kernel
theorem dX4_hold_34 : decode cX4_hold 34 = .ok (.getfield 12, 3) := by decide +kernel
theorem dX4_hold_37 : decode cX4_hold 37 = .ok (.getfield 221, 3) := by decide +kernel
theorem dX4_hold_40 : decode cX4_hold 40 = .ok (.iload_n 1, 1) := by decide +kernel
theorem dX4_hold_41 : decode cX4_hold 41 = .ok (.iload_n 2, 1) := by decide +kernel
theorem dX4_hold_42 : decode cX4_hold 42 = .ok (.iastore, 1) := by decide +kernel
theorem dX4_hold_43 : decode cX4_hold 43 = .ok (.iconst 1, 1) := by decide +kernel
theorem dX4_hold_44 : decode cX4_hold 44 = .ok (.ireturn, 1) := by decide +kernel
theorem dX4_as_0 : decode cX4_as 0 = .ok (.iload_n 1, 1) := by decide +kernel
theorem dX4_as_1 : decode cX4_as 1 = .ok (.iconst 0, 1) := by decide +kernel
theorem dX4_as_2 : decode cX4_as 2 = .ok (.bipush 9, 2) := by decide +kernel
theorem dX4_as_4 : decode cX4_as 4 = .ok (.invokestatic 56, 3) := by decide +kernel
theorem dX4_as_7 : decode cX4_as 7 = .ok (.ifCond .eq 13, 3) := by decide +kernel
theorem dX4_as_10 : decode cX4_as 10 = .ok (.iload_n 2, 1) := by decide +kernel
theorem dX4_as_11 : decode cX4_as 11 = .ok (.iconst 0, 1) := by decide +kernel
theorem dX4_as_12 : decode cX4_as 12 = .ok (.bipush 6, 2) := by decide +kernel
theorem dX4_as_14 : decode cX4_as 14 = .ok (.invokestatic 56, 3) := by decide +kernel
theorem dX4_as_17 : decode cX4_as 17 = .ok (.ifCond .ne 10, 3) := by decide +kernel
theorem dX4_as_20 : decode cX4_as 20 = .ok (.aload_n 0, 1) := by decide +kernel
theorem dX4_as_21 : decode cX4_as 21 = .ok (.ldc 48, 2) := by decide +kernel
theorem dX4_as_23 : decode cX4_as 23 = .ok (.invokevirtual 49, 3) := by decide +kernel
theorem dX4_as_26 : decode cX4_as 26 = .ok (.ireturn, 1) := by decide +kernel
theorem dX4_as_27 : decode cX4_as 27 = .ok (.aload_n 0, 1) := by decide +kernel
theorem dX4_as_28 : decode cX4_as 28 = .ok (.getfield 12, 3) := by decide +kernel
theorem dX4_as_31 : decode cX4_as 31 = .ok (.getfield 221, 3) := by decide +kernel
theorem dX4_as_34 : decode cX4_as 34 = .ok (.iload_n 1, 1) := by decide +kernel
theorem dX4_as_35 : decode cX4_as 35 = .ok (.iaload, 1) := by decide +kernel
theorem dX4_as_36 : decode cX4_as 36 = .ok (.istore_n 3, 1) := by decide +kernel
theorem dX4_as_37 : decode cX4_as 37 = .ok (.aload_n 0, 1) := by decide +kernel
theorem dX4_as_38 : decode cX4_as 38 = .ok (.getfield 12, 3) := by decide +kernel
theorem dX4_as_41 : decode cX4_as 41 = .ok (.iload_n 3, 1) := by decide +kernel
theorem dX4_as_42 : decode cX4_as 42 = .ok (.invokevirtual 67, 3) := by decide +kernel
theorem dX4_as_45 : decode cX4_as 45 = .ok (.ifCond .ne 10, 3) := by decide +kernel
theorem dX4_as_48 : decode cX4_as 48 = .ok (.aload_n 0, 1) := by decide +kernel
theorem dX4_as_49 : decode cX4_as 49 = .ok (.ldc 224, 2) := by decide +kernel
theorem dX4_as_51 : decode cX4_as 51 = .ok (.invokevirtual 49, 3) := by decide +kernel
theorem dX4_as_54 : decode cX4_as 54 = .ok (.ireturn, 1) := by decide +kernel
theorem dX4_as_55 : decode cX4_as 55 = .ok (.aload_n 0, 1) := by decide +kernel
theorem dX4_as_56 : decode cX4_as 56 = .ok (.getfield 12, 3) := by decide +kernel
theorem dX4_as_59 : decode cX4_as 59 = .ok (.getfield 71, 3) := by decide +kernel
theorem dX4_as_62 : decode cX4_as 62 = .ok (.iload_n 3, 1) := by decide +kernel
theorem dX4_as_63 : decode cX4_as 63 = .ok (.aaload, 1) := by decide +kernel
theorem dX4_as_64 : decode cX4_as 64 = .ok (.getfield 225, 3) := by decide +kernel
theorem dX4_as_67 : decode cX4_as 67 = .ok (.iload_n 2, 1) := by decide +kernel
theorem dX4_as_68 : decode cX4_as 68 = .ok (.invokestatic 228, 3) := by decide +kernel
theorem dX4_as_71 : decode cX4_as 71 = .ok (.ifCond .ne 10, 3) := by decide +kernel
theorem dX4_as_74 : decode cX4_as 74 = .ok (.aload_n 0, 1) := by decide +kernel
theorem dX4_as_75 : decode cX4_as 75 = .ok (.ldc 231, 2) := by decide +kernel
theorem dX4_as_77 : decode cX4_as 77 = .ok (.invokevirtual 49, 3) := by decide +kernel
theorem dX4_as_80 : decode cX4_as 80 = .ok (.ireturn, 1) := by decide +kernel
theorem dX4_as_81 : decode cX4_as 81 = .ok (.iload_n 3, 1) := by decide +kernel
theorem dX4_as_82 : decode cX4_as 82 = .ok (.ireturn, 1) := by decide +kernel
theorem dX4_sheet_0 : decode cX4_sheet 0 = .ok (.iload_n 2, 1) := by decide +kernel
theorem dX4_sheet_1 : decode cX4_sheet 1 = .ok (.ifCond .eq 21, 3) := by decide +kernel
theorem dX4_sheet_4 : decode cX4_sheet 4 = .ok (.iload_n 2, 1) := by decide +kernel
theorem dX4_sheet_5 : decode cX4_sheet 5 = .ok (.bipush 8, 2) := by decide +kernel
theorem dX4_sheet_7 : decode cX4_sheet 7 = .ok (.if_icmp .eq 15, 3) := by decide +kernel
theorem dX4_sheet_10 : decode cX4_sheet 10 = .ok (.iload_n 2, 1) := by decide +kernel
theorem dX4_sheet_11 : decode cX4_sheet 11 = .ok (.bipush 16, 2) := by decide +kernel
theorem dX4_sheet_13 : decode cX4_sheet 13 = .ok (.if_icmp .eq 9, 3) := by decide +kernel
theorem dX4_sheet_16 : decode cX4_sheet 16 = .ok (.iload_n 2, 1) := by decide +kernel
theorem dX4_sheet_17 : decode cX4_sheet 17 = .ok (.bipush 32, 2) := by decide +kernel
theorem dX4_sheet_19 : decode cX4_sheet 19 = .ok (.if_icmp .ne 7, 3) := by decide +kernel
theorem dX4_sheet_22 : decode cX4_sheet 22 = .ok (.iconst 1, 1) := by decide +kernel
theorem dX4_sheet_23 : decode cX4_sheet 23 = .ok (.goto 4, 3) := by decide +kernel
theorem dX4_sheet_26 : decode cX4_sheet 26 = .ok (.iconst 0, 1) := by decide +kernel
theorem dX4_sheet_27 : decode cX4_sheet 27 = .ok (.istore 4, 2) := by decide +kernel
theorem dX4_sheet_29 : decode cX4_sheet 29 = .ok (.iload_n 1, 1) := by decide +kernel
theorem dX4_sheet_30 : decode cX4_sheet 30 = .ok (.iconst 0, 1) := by decide +kernel
theorem dX4_sheet_31 : decode cX4_sheet 31 = .ok (.iconst 3, 1) := by decide +kernel
theorem dX4_sheet_32 : decode cX4_sheet 32 = .ok (.invokestatic 56, 3) := by decide +kernel
theorem dX4_sheet_35 : decode cX4_sheet 35 = .ok (.ifCond .eq 8, 3) := by decide +kernel
theorem dX4_sheet_38 : decode cX4_sheet 38 = .ok (.iload 4, 2) := by decide +kernel
theorem dX4_sheet_40 : decode cX4_sheet 40 = .ok (.ifCond .ne 10, 3) := by decide +kernel
theorem dX4_sheet_43 : decode cX4_sheet 43 = .ok (.aload_n 0, 1) := by decide +kernel
theorem dX4_sheet_44 : decode cX4_sheet 44 = .ok (.ldc 48, 2) := by decide +kernel
theorem dX4_sheet_46 : decode cX4_sheet 46 = .ok (.invokevirtual 49, 3) := by decide +kernel
theorem dX4_sheet_49 : decode cX4_sheet 49 = .ok (.ireturn, 1) := by decide +kernel
theorem dX4_sheet_50 : decode cX4_sheet 50 = .ok (.iload_n 3, 1) := by decide +kernel
theorem dX4_sheet_51 : decode cX4_sheet 51 = .ok (.ifCond .ge 10, 3) := by decide +kernel
theorem dX4_sheet_54 : decode cX4_sheet 54 = .ok (.aload_n 0, 1) := by decide +kernel
theorem dX4_sheet_55 : decode cX4_sheet 55 = .ok (.ldc 232, 2) := by decide +kernel
theorem dX4_sheet_57 : decode cX4_sheet 57 = .ok (.invokevirtual 49, 3) := by decide +kernel
theorem dX4_sheet_60 : decode cX4_sheet 60 = .ok (.ireturn, 1) := by decide +kernel
theorem dX4_sheet_61 : decode cX4_sheet 61 = .ok (.iload_n 3, 1) := by decide +kernel
theorem dX4_sheet_62 : decode cX4_sheet 62 = .ok (.bipush 40, 2) := by decide +kernel
theorem dX4_sheet_64 : decode cX4_sheet 64 = .ok (.if_icmp .le 10, 3) := by decide +kernel
theorem dX4_sheet_67 : decode cX4_sheet 67 = .ok (.aload_n 0, 1) := by decide +kernel
theorem dX4_sheet_68 : decode cX4_sheet 68 = .ok (.ldc 48, 2) := by decide +kernel
theorem dX4_sheet_70 : decode cX4_sheet 70 = .ok (.invokevirtual 49, 3) := by decide +kernel
theorem dX4_sheet_73 : decode cX4_sheet 73 = .ok (.ireturn, 1) := by decide +kernel
theorem dX4_sheet_74 : decode cX4_sheet 74 = .ok (.aload_n 0, 1) := by decide +kernel
theorem dX4_sheet_75 : decode cX4_sheet 75 = .ok (.getfield 35, 3) := by decide +kernel
theorem dX4_sheet_78 : decode cX4_sheet 78 = .ok (.iload_n 1, 1) := by decide +kernel
theorem dX4_sheet_79 : decode cX4_sheet 79 = .ok (.aaload, 1) := by decide +kernel
theorem dX4_sheet_80 : decode cX4_sheet 80 = .ok (.iload_n 2, 1) := by decide +kernel
theorem dX4_sheet_81 : decode cX4_sheet 81 = .ok (.iload_n 3, 1) := by decide +kernel
theorem dX4_sheet_82 : decode cX4_sheet 82 = .ok (.invokevirtual 233, 3) := by decide +kernel
theorem dX4_sheet_85 : decode cX4_sheet 85 = .ok (.aload_n 0, 1) := by decide +kernel
theorem dX4_sheet_86 : decode cX4_sheet 86 = .ok (.getfield 35, 3) := by decide +kernel
theorem dX4_sheet_89 : decode cX4_sheet 89 = .ok (.iload_n 1, 1) := by decide +kernel
theorem dX4_sheet_90 : decode cX4_sheet 90 = .ok (.aaload, 1) := by decide +kernel
theorem dX4_sheet_91 : decode cX4_sheet 91 = .ok (.getfield 236, 3) := by decide +kernel
theorem dX4_sheet_94 : decode cX4_sheet 94 = .ok (.ireturn, 1) := by decide +kernel
theorem dX4_write_0 : decode cX4_write 0 = .ok (.aload_n 0, 1) := by decide +kernel
theorem dX4_write_1 : decode cX4_write 1 = .ok (.iload_n 1, 1) := by decide +kernel
theorem dX4_write_2 : decode cX4_write 2 = .ok (.invokevirtual 237, 3) := by decide +kernel
theorem dX4_write_5 : decode cX4_write 5 = .ok (.istore 4, 2) := by decide +kernel
theorem dX4_write_7 : decode cX4_write 7 = .ok (.iload 4, 2) := by decide +kernel
theorem dX4_write_9 : decode cX4_write 9 = .ok (.ifCond .eq 10, 3) := by decide +kernel
theorem dX4_write_12 : decode cX4_write 12 = .ok (.aload_n 0, 1) := by decide +kernel
theorem dX4_write_13 : decode cX4_write 13 = .ok (.iload 4, 2) := by decide +kernel
theorem dX4_write_15 : decode cX4_write 15 = .ok (.invokevirtual 49, 3) := by decide +kernel
theorem dX4_write_18 : decode cX4_write 18 = .ok (.ireturn, 1) := by decide +kernel
theorem dX4_write_19 : decode cX4_write 19 = .ok (.iload_n 2, 1) := by decide +kernel
theorem dX4_write_20 : decode cX4_write 20 = .ok (.iconst 0, 1) := by decide +kernel
theorem dX4_write_21 : decode cX4_write 21 = .ok (.aload_n 0, 1) := by decide +kernel
theorem dX4_write_22 : decode cX4_write 22 = .ok (.getfield 35, 3) := by decide +kernel
theorem dX4_write_25 : decode cX4_write 25 = .ok (.iload_n 1, 1) := by decide +kernel
theorem dX4_write_26 : decode cX4_write 26 = .ok (.aaload, 1) := by decide +kernel
theorem dX4_write_27 : decode cX4_write 27 = .ok (.getfield 236, 3) := by decide +kernel
theorem dX4_write_30 : decode cX4_write 30 = .ok (.iconst 1, 1) := by decide +kernel
theorem dX4_write_31 : decode cX4_write 31 = .ok (.isub, 1) := by decide +kernel
theorem dX4_write_32 : decode cX4_write 32 = .ok (.invokestatic 56, 3) := by decide +kernel
theorem dX4_write_35 : decode cX4_write 35 = .ok (.ifCond .ne 10, 3) := by decide +kernel
theorem dX4_write_38 : decode cX4_write 38 = .ok (.aload_n 0, 1) := by decide +kernel
theorem dX4_write_39 : decode cX4_write 39 = .ok (.ldc 48, 2) := by decide +kernel
theorem dX4_write_41 : decode cX4_write 41 = .ok (.invokevirtual 49, 3) := by decide +kernel
theorem dX4_write_44 : decode cX4_write 44 = .ok (.ireturn, 1) := by decide +kernel
theorem dX4_write_45 : decode cX4_write 45 = .ok (.aload_n 0, 1) := by decide +kernel
theorem dX4_write_46 : decode cX4_write 46 = .ok (.getfield 35, 3) := by decide +kernel
theorem dX4_write_49 : decode cX4_write 49 = .ok (.iload_n 1, 1) := by decide +kernel
theorem dX4_write_50 : decode cX4_write 50 = .ok (.aaload, 1) := by decide +kernel
theorem dX4_write_51 : decode cX4_write 51 = .ok (.getfield 240, 3) := by decide +kernel
theorem dX4_write_54 : decode cX4_write 54 = .ok (.iload_n 2, 1) := by decide +kernel
theorem dX4_write_55 : decode cX4_write 55 = .ok (.aload_n 0, 1) := by decide +kernel
theorem dX4_write_56 : decode cX4_write 56 = .ok (.getfield 35, 3) := by decide +kernel
theorem dX4_write_59 : decode cX4_write 59 = .ok (.iload_n 1, 1) := by decide +kernel
theorem dX4_write_60 : decode cX4_write 60 = .ok (.aaload, 1) := by decide +kernel
theorem dX4_write_61 : decode cX4_write 61 = .ok (.iload_n 3, 1) := by decide +kernel
theorem dX4_write_62 : decode cX4_write 62 = .ok (.invokevirtual 243, 3) := by decide +kernel
theorem dX4_write_65 : decode cX4_write 65 = .ok (.iastore, 1) := by decide +kernel
theorem dX4_write_66 : decode cX4_write 66 = .ok (.iconst 1, 1) := by decide +kernel
theorem dX4_write_67 : decode cX4_write 67 = .ok (.ireturn, 1) := by decide +kernel
theorem dX4_copy_0 : decode cX4_copy 0 = .ok (.iload_n 1, 1) := by decide +kernel
theorem dX4_copy_1 : decode cX4_copy 1 = .ok (.iconst 0, 1) := by decide +kernel
theorem dX4_copy_2 : decode cX4_copy 2 = .ok (.iconst 3, 1) := by decide +kernel
theorem dX4_copy_3 : decode cX4_copy 3 = .ok (.invokestatic 56, 3) := by decide +kernel
theorem dX4_copy_6 : decode cX4_copy 6 = .ok (.ifCond .eq 12, 3) := by decide +kernel
theorem dX4_copy_9 : decode cX4_copy 9 = .ok (.iload_n 3, 1) := by decide +kernel
theorem dX4_copy_10 : decode cX4_copy 10 = .ok (.iconst 0, 1) := by decide +kernel
theorem dX4_copy_11 : decode cX4_copy 11 = .ok (.iconst 3, 1) := by decide +kernel
theorem dX4_copy_12 : decode cX4_copy 12 = .ok (.invokestatic 56, 3) := by decide +kernel
theorem dX4_copy_15 : decode cX4_copy 15 = .ok (.ifCond .ne 10, 3) := by decide +kernel
theorem dX4_copy_18 : decode cX4_copy 18 = .ok (.aload_n 0, 1) := by decide +kernel
theorem dX4_copy_19 : decode cX4_copy 19 = .ok (.ldc 48, 2) := by decide +kernel
theorem dX4_copy_21 : decode cX4_copy 21 = .ok (.invokevirtual 49, 3) := by decide +kernel
theorem dX4_copy_24 : decode cX4_copy 24 = .ok (.ireturn, 1) := by decide +kernel
theorem dX4_copy_25 : decode cX4_copy 25 = .ok (.aload_n 0, 1) := by decide +kernel
theorem dX4_copy_26 : decode cX4_copy 26 = .ok (.getfield 35, 3) := by decide +kernel
theorem dX4_copy_29 : decode cX4_copy 29 = .ok (.iload_n 1, 1) := by decide +kernel
theorem dX4_copy_30 : decode cX4_copy 30 = .ok (.aaload, 1) := by decide +kernel
theorem dX4_copy_31 : decode cX4_copy 31 = .ok (.astore 6, 2) := by decide +kernel
theorem dX4_copy_33 : decode cX4_copy 33 = .ok (.aload_n 0, 1) := by decide +kernel
theorem dX4_copy_34 : decode cX4_copy 34 = .ok (.getfield 35, 3) := by decide +kernel
theorem dX4_copy_37 : decode cX4_copy 37 = .ok (.iload_n 3, 1) := by decide +kernel
theorem dX4_copy_38 : decode cX4_copy 38 = .ok (.aaload, 1) := by decide +kernel
theorem dX4_copy_39 : decode cX4_copy 39 = .ok (.astore 7, 2) := by decide +kernel
theorem dX4_copy_41 : decode cX4_copy 41 = .ok (.aload 6, 2) := by decide +kernel
theorem dX4_copy_43 : decode cX4_copy 43 = .ok (.invokevirtual 246, 3) := by decide +kernel
theorem dX4_copy_46 : decode cX4_copy 46 = .ok (.ifCond .ne 11, 3) := by decide +kernel
theorem dX4_copy_49 : decode cX4_copy 49 = .ok (.aload 7, 2) := by decide +kernel
theorem dX4_copy_51 : decode cX4_copy 51 = .ok (.invokevirtual 246, 3) := by decide +kernel
theorem dX4_copy_54 : decode cX4_copy 54 = .ok (.ifCond .eq 10, 3) := by decide +kernel
theorem dX4_copy_57 : decode cX4_copy 57 = .ok (.aload_n 0, 1) := by decide +kernel
theorem dX4_copy_58 : decode cX4_copy 58 = .ok (.ldc 224, 2) := by decide +kernel
theorem dX4_copy_60 : decode cX4_copy 60 = .ok (.invokevirtual 49, 3) := by decide +kernel
theorem dX4_copy_63 : decode cX4_copy 63 = .ok (.ireturn, 1) := by decide +kernel
theorem dX4_copy_64 : decode cX4_copy 64 = .ok (.aload 6, 2) := by decide +kernel
theorem dX4_copy_66 : decode cX4_copy 66 = .ok (.getfield 249, 3) := by decide +kernel
theorem dX4_copy_69 : decode cX4_copy 69 = .ok (.aload 7, 2) := by decide +kernel
theorem dX4_copy_71 : decode cX4_copy 71 = .ok (.getfield 249, 3) := by decide +kernel
theorem dX4_copy_74 : decode cX4_copy 74 = .ok (.if_icmp .eq 10, 3) := by decide +kernel
theorem dX4_copy_77 : decode cX4_copy 77 = .ok (.aload_n 0, 1) := by decide +kernel
theorem dX4_copy_78 : decode cX4_copy 78 = .ok (.ldc 231, 2) := by decide +kernel
theorem dX4_copy_80 : decode cX4_copy 80 = .ok (.invokevirtual 49, 3) := by decide +kernel
theorem dX4_copy_83 : decode cX4_copy 83 = .ok (.ireturn, 1) := by decide +kernel
theorem dX4_copy_84 : decode cX4_copy 84 = .ok (.aload 6, 2) := by decide +kernel
theorem dX4_copy_86 : decode cX4_copy 86 = .ok (.iload_n 2, 1) := by decide +kernel
theorem dX4_copy_87 : decode cX4_copy 87 = .ok (.iload 5, 2) := by decide +kernel
theorem dX4_copy_89 : decode cX4_copy 89 = .ok (.invokevirtual 252, 3) := by decide +kernel
theorem dX4_copy_92 : decode cX4_copy 92 = .ok (.ifCond .eq 15, 3) := by decide +kernel
theorem dX4_copy_95 : decode cX4_copy 95 = .ok (.aload 7, 2) := by decide +kernel
theorem dX4_copy_97 : decode cX4_copy 97 = .ok (.iload 4, 2) := by decide +kernel
theorem dX4_copy_99 : decode cX4_copy 99 = .ok (.iload 5, 2) := by decide +kernel
theorem dX4_copy_101 : decode cX4_copy 101 = .ok (.invokevirtual 252, 3) := by decide +kernel
theorem dX4_copy_104 : decode cX4_copy 104 = .ok (.ifCond .ne 10, 3) := by decide +kernel
theorem dX4_copy_107 : decode cX4_copy 107 = .ok (.aload_n 0, 1) := by decide +kernel
theorem dX4_copy_108 : decode cX4_copy 108 = .ok (.ldc 48, 2) := by decide +kernel
theorem dX4_copy_110 : decode cX4_copy 110 = .ok (.invokevirtual 49, 3) := by decide +kernel
theorem dX4_copy_113 : decode cX4_copy 113 = .ok (.ireturn, 1) := by decide +kernel
theorem dX4_copy_114 : decode cX4_copy 114 = .ok (.aload 6, 2) := by decide +kernel
theorem dX4_copy_116 : decode cX4_copy 116 = .ok (.getfield 240, 3) := by decide +kernel
theorem dX4_copy_119 : decode cX4_copy 119 = .ok (.iload_n 2, 1) := by decide +kernel
theorem dX4_copy_120 : decode cX4_copy 120 = .ok (.aload 7, 2) := by decide +kernel
theorem dX4_copy_122 : decode cX4_copy 122 = .ok (.getfield 240, 3) := by decide +kernel
theorem dX4_copy_125 : decode cX4_copy 125 = .ok (.iload 4, 2) := by decide +kernel
theorem dX4_copy_127 : decode cX4_copy 127 = .ok (.iload 5, 2) := by decide +kernel
theorem dX4_copy_129 : decode cX4_copy 129 = .ok (.invokestatic 255, 3) := by decide +kernel
theorem dX4_copy_132 : decode cX4_copy 132 = .ok (.iload 5, 2) := by decide +kernel
theorem dX4_copy_134 : decode cX4_copy 134 = .ok (.ireturn, 1) := by decide +kernel
theorem dX4_load_0 : decode cX4_load 0 = .ok (.aload_n 0, 1) := by decide +kernel
theorem dX4_load_1 : decode cX4_load 1 = .ok (.iload_n 1, 1) := by decide +kernel
theorem dX4_load_2 : decode cX4_load 2 = .ok (.invokevirtual 237, 3) := by decide +kernel
theorem dX4_load_5 : decode cX4_load 5 = .ok (.istore_n 2, 1) := by decide +kernel
theorem dX4_load_6 : decode cX4_load 6 = .ok (.iload_n 2, 1) := by decide +kernel
theorem dX4_load_7 : decode cX4_load 7 = .ok (.ifCond .eq 9, 3) := by decide +kernel
theorem dX4_load_10 : decode cX4_load 10 = .ok (.aload_n 0, 1) := by decide +kernel
theorem dX4_load_11 : decode cX4_load 11 = .ok (.iload_n 2, 1) := by decide +kernel
theorem dX4_load_12 : decode cX4_load 12 = .ok (.invokevirtual 49, 3) := by decide +kernel
theorem dX4_load_15 : decode cX4_load 15 = .ok (.ireturn, 1) := by decide +kernel
theorem dX4_load_16 : decode cX4_load 16 = .ok (.aload_n 0, 1) := by decide +kernel
theorem dX4_load_17 : decode cX4_load 17 = .ok (.getfield 35, 3) := by decide +kernel
theorem dX4_load_20 : decode cX4_load 20 = .ok (.iload_n 1, 1) := by decide +kernel
theorem dX4_load_21 : decode cX4_load 21 = .ok (.aaload, 1) := by decide +kernel
theorem dX4_load_22 : decode cX4_load 22 = .ok (.astore_n 3, 1) := by decide +kernel
theorem dX4_load_23 : decode cX4_load 23 = .ok (.iconst 0, 1) := by decide +kernel
theorem dX4_load_24 : decode cX4_load 24 = .ok (.istore 4, 2) := by decide +kernel
theorem dX4_load_26 : decode cX4_load 26 = .ok (.iload 4, 2) := by decide +kernel
theorem dX4_load_28 : decode cX4_load 28 = .ok (.bipush 6, 2) := by decide +kernel
theorem dX4_load_30 : decode cX4_load 30 = .ok (.if_icmp .ge 52, 3) := by decide +kernel
theorem dX4_load_33 : decode cX4_load 33 = .ok (.iload 4, 2) := by decide +kernel
theorem dX4_load_35 : decode cX4_load 35 = .ok (.aload_n 3, 1) := by decide +kernel
theorem dX4_load_36 : decode cX4_load 36 = .ok (.getfield 236, 3) := by decide +kernel
theorem dX4_load_39 : decode cX4_load 39 = .ok (.if_icmp .ge 43, 3) := by decide +kernel
theorem dX4_load_42 : decode cX4_load 42 = .ok (.aload_n 3, 1) := by decide +kernel
theorem dX4_load_43 : decode cX4_load 43 = .ok (.getfield 240, 3) := by decide +kernel
theorem dX4_load_46 : decode cX4_load 46 = .ok (.iload 4, 2) := by decide +kernel
theorem dX4_load_48 : decode cX4_load 48 = .ok (.iaload, 1) := by decide +kernel
theorem dX4_load_49 : decode cX4_load 49 = .ok (.iconst 0, 1) := by decide +kernel
theorem dX4_load_50 : decode cX4_load 50 = .ok (.sipush 255, 3) := by decide +kernel
theorem dX4_load_53 : decode cX4_load 53 = .ok (.invokestatic 56, 3) := by decide +kernel
theorem dX4_load_56 : decode cX4_load 56 = .ok (.ifCond .eq 26, 3) := by decide +kernel
theorem dX4_load_59 : decode cX4_load 59 = .ok (.aload_n 0, 1) := by decide +kernel
theorem dX4_load_60 : decode cX4_load 60 = .ok (.getfield 12, 3) := by decide +kernel
theorem dX4_load_63 : decode cX4_load 63 = .ok (.getfield 60, 3) := by decide +kernel
theorem dX4_load_66 : decode cX4_load 66 = .ok (.iload 4, 2) := by decide +kernel
theorem dX4_load_68 : decode cX4_load 68 = .ok (.aload_n 3, 1) := by decide +kernel
theorem dX4_load_69 : decode cX4_load 69 = .ok (.getfield 240, 3) := by decide +kernel
theorem dX4_load_72 : decode cX4_load 72 = .ok (.iload 4, 2) := by decide +kernel
theorem dX4_load_74 : decode cX4_load 74 = .ok (.iaload, 1) := by decide +kernel
theorem dX4_load_75 : decode cX4_load 75 = .ok (.iastore, 1) := by decide +kernel
theorem dX4_load_76 : decode cX4_load 76 = .ok (.iinc 4 1, 3) := by decide +kernel
theorem dX4_load_79 : decode cX4_load 79 = .ok (.goto (-53), 3) := by decide +kernel
theorem dX4_load_82 : decode cX4_load 82 = .ok (.iload 4, 2) := by decide +kernel
theorem dX4_load_84 : decode cX4_load 84 = .ok (.ireturn, 1) := by decide +kernel
theorem dX4_judge_0 : decode cX4_judge 0 = .ok (.aload_n 0, 1) := by decide +kernel
theorem dX4_judge_1 : decode cX4_judge 1 = .ok (.iload_n 1, 1) := by decide +kernel
theorem dX4_judge_2 : decode cX4_judge 2 = .ok (.invokevirtual 237, 3) := by decide +kernel
theorem dX4_judge_5 : decode cX4_judge 5 = .ok (.istore_n 2, 1) := by decide +kernel
theorem dX4_judge_6 : decode cX4_judge 6 = .ok (.iload_n 2, 1) := by decide +kernel
theorem dX4_judge_7 : decode cX4_judge 7 = .ok (.ifCond .eq 9, 3) := by decide +kernel
theorem dX4_judge_10 : decode cX4_judge 10 = .ok (.aload_n 0, 1) := by decide +kernel
theorem dX4_judge_11 : decode cX4_judge 11 = .ok (.iload_n 2, 1) := by decide +kernel
theorem dX4_judge_12 : decode cX4_judge 12 = .ok (.invokevirtual 49, 3) := by decide +kernel
theorem dX4_judge_15 : decode cX4_judge 15 = .ok (.ireturn, 1) := by decide +kernel
theorem dX4_judge_16 : decode cX4_judge 16 = .ok (.aload_n 0, 1) := by decide +kernel
theorem dX4_judge_17 : decode cX4_judge 17 = .ok (.getfield 35, 3) := by decide +kernel
theorem dX4_judge_20 : decode cX4_judge 20 = .ok (.iload_n 1, 1) := by decide +kernel
theorem dX4_judge_21 : decode cX4_judge 21 = .ok (.aaload, 1) := by decide +kernel
theorem dX4_judge_22 : decode cX4_judge 22 = .ok (.astore_n 3, 1) := by decide +kernel
theorem dX4_judge_23 : decode cX4_judge 23 = .ok (.iconst 0, 1) := by decide +kernel
theorem dX4_judge_24 : decode cX4_judge 24 = .ok (.istore 4, 2) := by decide +kernel
theorem dX4_judge_26 : decode cX4_judge 26 = .ok (.iload 4, 2) := by decide +kernel
theorem dX4_judge_28 : decode cX4_judge 28 = .ok (.aload_n 3, 1) := by decide +kernel
theorem dX4_judge_29 : decode cX4_judge 29 = .ok (.getfield 236, 3) := by decide +kernel
theorem dX4_judge_32 : decode cX4_judge 32 = .ok (.if_icmp .ge 49, 3) := by decide +kernel
theorem dX4_judge_35 : decode cX4_judge 35 = .ok (.aload_n 0, 1) := by decide +kernel
theorem dX4_judge_36 : decode cX4_judge 36 = .ok (.getfield 12, 3) := by decide +kernel
theorem dX4_judge_39 : decode cX4_judge 39 = .ok (.iload 4, 2) := by decide +kernel
theorem dX4_judge_41 : decode cX4_judge 41 = .ok (.invokevirtual 67, 3) := by decide +kernel
theorem dX4_judge_44 : decode cX4_judge 44 = .ok (.ifCond .eq 26, 3) := by decide +kernel
theorem dX4_judge_47 : decode cX4_judge 47 = .ok (.aload_n 0, 1) := by decide +kernel
theorem dX4_judge_48 : decode cX4_judge 48 = .ok (.getfield 12, 3) := by decide +kernel
theorem dX4_judge_51 : decode cX4_judge 51 = .ok (.getfield 71, 3) := by decide +kernel
theorem dX4_judge_54 : decode cX4_judge 54 = .ok (.iload 4, 2) := by decide +kernel
theorem dX4_judge_56 : decode cX4_judge 56 = .ok (.aaload, 1) := by decide +kernel
theorem dX4_judge_57 : decode cX4_judge 57 = .ok (.getfield 261, 3) := by decide +kernel
theorem dX4_judge_60 : decode cX4_judge 60 = .ok (.aload_n 3, 1) := by decide +kernel
theorem dX4_judge_61 : decode cX4_judge 61 = .ok (.getfield 240, 3) := by decide +kernel
theorem dX4_judge_64 : decode cX4_judge 64 = .ok (.iload 4, 2) := by decide +kernel
theorem dX4_judge_66 : decode cX4_judge 66 = .ok (.iaload, 1) := by decide +kernel
theorem dX4_judge_67 : decode cX4_judge 67 = .ok (.if_icmp .eq 8, 3) := by decide +kernel
theorem dX4_judge_70 : decode cX4_judge 70 = .ok (.iconst 1, 1) := by decide +kernel
theorem dX4_judge_71 : decode cX4_judge 71 = .ok (.iload 4, 2) := by decide +kernel
theorem dX4_judge_73 : decode cX4_judge 73 = .ok (.iadd, 1) := by decide +kernel
theorem dX4_judge_74 : decode cX4_judge 74 = .ok (.ireturn, 1) := by decide +kernel
theorem dX4_judge_75 : decode cX4_judge 75 = .ok (.iinc 4 1, 3) := by decide +kernel
theorem dX4_judge_78 : decode cX4_judge 78 = .ok (.goto (-52), 3) := by decide +kernel
theorem dX4_judge_81 : decode cX4_judge 81 = .ok (.iconst 0, 1) := by decide +kernel
theorem dX4_judge_82 : decode cX4_judge 82 = .ok (.ireturn, 1) := by decide +kernel
theorem dX4_image_0 : decode cX4_image 0 = .ok (.aload_n 0, 1) := by decide +kernel
theorem dX4_image_1 : decode cX4_image 1 = .ok (.getfield 19, 3) := by decide +kernel
theorem dX4_image_4 : decode cX4_image 4 = .ok (.aload_n 0, 1) := by decide +kernel
theorem dX4_image_5 : decode cX4_image 5 = .ok (.getfield 12, 3) := by decide +kernel
theorem dX4_image_8 : decode cX4_image 8 = .ok (.invokevirtual 217, 3) := by decide +kernel
theorem dX4_image_11 : decode cX4_image 11 = .ok (.aload_n 0, 1) := by decide +kernel
theorem dX4_image_12 : decode cX4_image 12 = .ok (.iconst 1, 1) := by decide +kernel
theorem dX4_image_13 : decode cX4_image 13 = .ok (.putfield 22, 3) := by decide +kernel
theorem dX4_image_16 : decode cX4_image 16 = .ok (.iconst 1, 1) := by decide +kernel
theorem dX4_image_17 : decode cX4_image 17 = .ok (.ireturn, 1) := by decide +kernel
theorem dX4_undo_0 : decode cX4_undo 0 = .ok (.aload_n 0, 1) := by decide +kernel
theorem dX4_undo_1 : decode cX4_undo 1 = .ok (.getfield 22, 3) := by decide +kernel
theorem dX4_undo_4 : decode cX4_undo 4 = .ok (.ifCond .ne 10, 3) := by decide +kernel
theorem dX4_undo_7 : decode cX4_undo 7 = .ok (.aload_n 0, 1) := by decide +kernel
theorem dX4_undo_8 : decode cX4_undo 8 = .ok (.ldc 153, 2) := by decide +kernel
theorem dX4_undo_10 : decode cX4_undo 10 = .ok (.invokevirtual 49, 3) := by decide +kernel
theorem dX4_undo_13 : decode cX4_undo 13 = .ok (.ireturn, 1) := by decide +kernel
theorem dX4_undo_14 : decode cX4_undo 14 = .ok (.aload_n 0, 1) := by decide +kernel
theorem dX4_undo_15 : decode cX4_undo 15 = .ok (.getfield 12, 3) := by decide +kernel
theorem dX4_undo_18 : decode cX4_undo 18 = .ok (.aload_n 0, 1) := by decide +kernel
theorem dX4_undo_19 : decode cX4_undo 19 = .ok (.getfield 19, 3) := by decide +kernel
theorem dX4_undo_22 : decode cX4_undo 22 = .ok (.invokevirtual 217, 3) := by decide +kernel
theorem dX4_undo_25 : decode cX4_undo 25 = .ok (.aload_n 0, 1) := by decide +kernel
theorem dX4_undo_26 : decode cX4_undo 26 = .ok (.getfield 12, 3) := by decide +kernel
theorem dX4_undo_29 : decode cX4_undo 29 = .ok (.getfield 101, 3) := by decide +kernel
theorem dX4_undo_32 : decode cX4_undo 32 = .ok (.ireturn, 1) := by decide +kernel
theorem dX4_tear_0 : decode cX4_tear 0 = .ok (.aload_n 0, 1) := by decide +kernel
theorem dX4_tear_1 : decode cX4_tear 1 = .ok (.getfield 22, 3) := by decide +kernel
theorem dX4_tear_4 : decode cX4_tear 4 = .ok (.ifCond .eq 7, 3) := by decide +kernel
theorem dX4_tear_7 : decode cX4_tear 7 = .ok (.iconst 1, 1) := by decide +kernel
theorem dX4_tear_8 : decode cX4_tear 8 = .ok (.goto 4, 3) := by decide +kernel
theorem dX4_tear_11 : decode cX4_tear 11 = .ok (.iconst 0, 1) := by decide +kernel
theorem dX4_tear_12 : decode cX4_tear 12 = .ok (.istore_n 1, 1) := by decide +kernel
theorem dX4_tear_13 : decode cX4_tear 13 = .ok (.aload_n 0, 1) := by decide +kernel
theorem dX4_tear_14 : decode cX4_tear 14 = .ok (.iconst 0, 1) := by decide +kernel
theorem dX4_tear_15 : decode cX4_tear 15 = .ok (.putfield 22, 3) := by decide +kernel
theorem dX4_tear_18 : decode cX4_tear 18 = .ok (.iload_n 1, 1) := by decide +kernel
theorem dX4_tear_19 : decode cX4_tear 19 = .ok (.ireturn, 1) := by decide +kernel
theorem dX4_count_0 : decode cX4_count 0 = .ok (.iload_n 1, 1) := by decide +kernel
theorem dX4_count_1 : decode cX4_count 1 = .ok (.tableswitch 114 0 7 #[47, 55, 63, 71, 79, 90, 98, 106], 47) := by decide +kernel
theorem dX4_count_48 : decode cX4_count 48 = .ok (.aload_n 0, 1) := by decide +kernel
theorem dX4_count_49 : decode cX4_count 49 = .ok (.getfield 12, 3) := by decide +kernel
theorem dX4_count_52 : decode cX4_count 52 = .ok (.getfield 101, 3) := by decide +kernel
theorem dX4_count_55 : decode cX4_count 55 = .ok (.ireturn, 1) := by decide +kernel
theorem dX4_count_56 : decode cX4_count 56 = .ok (.aload_n 0, 1) := by decide +kernel
theorem dX4_count_57 : decode cX4_count 57 = .ok (.getfield 12, 3) := by decide +kernel
theorem dX4_count_60 : decode cX4_count 60 = .ok (.getfield 147, 3) := by decide +kernel
theorem dX4_count_63 : decode cX4_count 63 = .ok (.ireturn, 1) := by decide +kernel
theorem dX4_count_64 : decode cX4_count 64 = .ok (.aload_n 0, 1) := by decide +kernel
theorem dX4_count_65 : decode cX4_count 65 = .ok (.getfield 12, 3) := by decide +kernel
theorem dX4_count_68 : decode cX4_count 68 = .ok (.invokevirtual 111, 3) := by decide +kernel
theorem dX4_count_71 : decode cX4_count 71 = .ok (.ireturn, 1) := by decide +kernel
theorem dX4_count_72 : decode cX4_count 72 = .ok (.aload_n 0, 1) := by decide +kernel
theorem dX4_count_73 : decode cX4_count 73 = .ok (.getfield 12, 3) := by decide +kernel
theorem dX4_count_76 : decode cX4_count 76 = .ok (.invokevirtual 132, 3) := by decide +kernel
theorem dX4_count_79 : decode cX4_count 79 = .ok (.ireturn, 1) := by decide +kernel
theorem dX4_count_80 : decode cX4_count 80 = .ok (.aload_n 0, 1) := by decide +kernel
theorem dX4_count_81 : decode cX4_count 81 = .ok (.getfield 12, 3) := by decide +kernel
theorem dX4_count_84 : decode cX4_count 84 = .ok (.invokevirtual 114, 3) := by decide +kernel
theorem dX4_count_87 : decode cX4_count 87 = .ok (.invokestatic 142, 3) := by decide +kernel
theorem dX4_count_90 : decode cX4_count 90 = .ok (.ireturn, 1) := by decide +kernel
theorem dX4_count_91 : decode cX4_count 91 = .ok (.aload_n 0, 1) := by decide +kernel
theorem dX4_count_92 : decode cX4_count 92 = .ok (.getfield 29, 3) := by decide +kernel
theorem dX4_count_95 : decode cX4_count 95 = .ok (.getfield 207, 3) := by decide +kernel
theorem dX4_count_98 : decode cX4_count 98 = .ok (.ireturn, 1) := by decide +kernel
theorem dX4_count_99 : decode cX4_count 99 = .ok (.aload_n 0, 1) := by decide +kernel
theorem dX4_count_100 : decode cX4_count 100 = .ok (.getfield 12, 3) := by decide +kernel
theorem dX4_count_103 : decode cX4_count 103 = .ok (.getfield 204, 3) := by decide +kernel
theorem dX4_count_106 : decode cX4_count 106 = .ok (.ireturn, 1) := by decide +kernel
theorem dX4_count_107 : decode cX4_count 107 = .ok (.aload_n 0, 1) := by decide +kernel
theorem dX4_count_108 : decode cX4_count 108 = .ok (.getfield 12, 3) := by decide +kernel
theorem dX4_count_111 : decode cX4_count 111 = .ok (.invokevirtual 264, 3) := by decide +kernel
theorem dX4_count_114 : decode cX4_count 114 = .ok (.ireturn, 1) := by decide +kernel
theorem dX4_count_115 : decode cX4_count 115 = .ok (.aload_n 0, 1) := by decide +kernel
theorem dX4_count_116 : decode cX4_count 116 = .ok (.ldc 48, 2) := by decide +kernel
theorem dX4_count_118 : decode cX4_count 118 = .ok (.invokevirtual 49, 3) := by decide +kernel
theorem dX4_count_121 : decode cX4_count 121 = .ok (.ireturn, 1) := by decide +kernel
theorem dX4_status_0 : decode cX4_status 0 = .ok (.iload_n 1, 1) := by decide +kernel
theorem dX4_status_1 : decode cX4_status 1 = .ok (.iconst (-1), 1) := by decide +kernel
theorem dX4_status_2 : decode cX4_status 2 = .ok (.bipush 6, 2) := by decide +kernel
theorem dX4_status_4 : decode cX4_status 4 = .ok (.invokestatic 56, 3) := by decide +kernel
theorem dX4_status_7 : decode cX4_status 7 = .ok (.ifCond .ne 10, 3) := by decide +kernel
theorem dX4_status_10 : decode cX4_status 10 = .ok (.aload_n 0, 1) := by decide +kernel
theorem dX4_status_11 : decode cX4_status 11 = .ok (.ldc 48, 2) := by decide +kernel
theorem dX4_status_13 : decode cX4_status 13 = .ok (.invokevirtual 49, 3) := by decide +kernel
theorem dX4_status_16 : decode cX4_status 16 = .ok (.ireturn, 1) := by decide +kernel
theorem dX4_status_17 : decode cX4_status 17 = .ok (.iload_n 1, 1) := by decide +kernel
theorem dX4_status_18 : decode cX4_status 18 = .ok (.ifCond .lt 10, 3) := by decide +kernel
theorem dX4_status_21 : decode cX4_status 21 = .ok (.aload_n 0, 1) := by decide +kernel
theorem dX4_status_22 : decode cX4_status 22 = .ok (.getfield 40, 3) := by decide +kernel
theorem dX4_status_25 : decode cX4_status 25 = .ok (.iload_n 1, 1) := by decide +kernel
theorem dX4_status_26 : decode cX4_status 26 = .ok (.iaload, 1) := by decide +kernel
theorem dX4_status_27 : decode cX4_status 27 = .ok (.ireturn, 1) := by decide +kernel
theorem dX4_status_28 : decode cX4_status 28 = .ok (.iconst 0, 1) := by decide +kernel
theorem dX4_status_29 : decode cX4_status 29 = .ok (.istore_n 2, 1) := by decide +kernel
theorem dX4_status_30 : decode cX4_status 30 = .ok (.iconst 0, 1) := by decide +kernel
theorem dX4_status_31 : decode cX4_status 31 = .ok (.istore_n 3, 1) := by decide +kernel
theorem dX4_status_32 : decode cX4_status 32 = .ok (.iload_n 3, 1) := by decide +kernel
theorem dX4_status_33 : decode cX4_status 33 = .ok (.bipush 7, 2) := by decide +kernel
theorem dX4_status_35 : decode cX4_status 35 = .ok (.if_icmp .ge 18, 3) := by decide +kernel
theorem dX4_status_38 : decode cX4_status 38 = .ok (.iload_n 2, 1) := by decide +kernel
theorem dX4_status_39 : decode cX4_status 39 = .ok (.aload_n 0, 1) := by decide +kernel
theorem dX4_status_40 : decode cX4_status 40 = .ok (.getfield 40, 3) := by decide +kernel
theorem dX4_status_43 : decode cX4_status 43 = .ok (.iload_n 3, 1) := by decide +kernel
theorem dX4_status_44 : decode cX4_status 44 = .ok (.iaload, 1) := by decide +kernel
theorem dX4_status_45 : decode cX4_status 45 = .ok (.iadd, 1) := by decide +kernel
theorem dX4_status_46 : decode cX4_status 46 = .ok (.istore_n 2, 1) := by decide +kernel
theorem dX4_status_47 : decode cX4_status 47 = .ok (.iinc 3 1, 3) := by decide +kernel
theorem dX4_status_50 : decode cX4_status 50 = .ok (.goto (-18), 3) := by decide +kernel
theorem dX4_status_53 : decode cX4_status 53 = .ok (.iload_n 2, 1) := by decide +kernel
theorem dX4_status_54 : decode cX4_status 54 = .ok (.ireturn, 1) := by decide +kernel
theorem dX4_tell_0 : decode cX4_tell 0 = .ok (.ldc 48, 2) := by decide +kernel
theorem dX4_tell_2 : decode cX4_tell 2 = .ok (.iload_n 1, 1) := by decide +kernel
theorem dX4_tell_3 : decode cX4_tell 3 = .ok (.isub, 1) := by decide +kernel
theorem dX4_tell_4 : decode cX4_tell 4 = .ok (.istore_n 2, 1) := by decide +kernel
theorem dX4_tell_5 : decode cX4_tell 5 = .ok (.iload_n 2, 1) := by decide +kernel
theorem dX4_tell_6 : decode cX4_tell 6 = .ok (.iconst 0, 1) := by decide +kernel
theorem dX4_tell_7 : decode cX4_tell 7 = .ok (.bipush 6, 2) := by decide +kernel
theorem dX4_tell_9 : decode cX4_tell 9 = .ok (.invokestatic 56, 3) := by decide +kernel
theorem dX4_tell_12 : decode cX4_tell 12 = .ok (.ifCond .eq 13, 3) := by decide +kernel
theorem dX4_tell_15 : decode cX4_tell 15 = .ok (.aload_n 0, 1) := by decide +kernel
theorem dX4_tell_16 : decode cX4_tell 16 = .ok (.getfield 40, 3) := by decide +kernel
theorem dX4_tell_19 : decode cX4_tell 19 = .ok (.iload_n 2, 1) := by decide +kernel
theorem dX4_tell_20 : decode cX4_tell 20 = .ok (.dup2, 1) := by decide +kernel
theorem dX4_tell_21 : decode cX4_tell 21 = .ok (.iaload, 1) := by decide +kernel
theorem dX4_tell_22 : decode cX4_tell 22 = .ok (.iconst 1, 1) := by decide +kernel
theorem dX4_tell_23 : decode cX4_tell 23 = .ok (.iadd, 1) := by decide +kernel
theorem dX4_tell_24 : decode cX4_tell 24 = .ok (.iastore, 1) := by decide +kernel
theorem dX4_tell_25 : decode cX4_tell 25 = .ok (.iload_n 1, 1) := by decide +kernel
theorem dX4_tell_26 : decode cX4_tell 26 = .ok (.ireturn, 1) := by decide +kernel
theorem dX4_lackOf_0 : decode cX4_lackOf 0 = .ok (.iload_n 1, 1) := by decide +kernel
theorem dX4_lackOf_1 : decode cX4_lackOf 1 = .ok (.iconst 0, 1) := by decide +kernel
theorem dX4_lackOf_2 : decode cX4_lackOf 2 = .ok (.iconst 3, 1) := by decide +kernel
theorem dX4_lackOf_3 : decode cX4_lackOf 3 = .ok (.invokestatic 56, 3) := by decide +kernel
theorem dX4_lackOf_6 : decode cX4_lackOf 6 = .ok (.ifCond .ne 6, 3) := by decide +kernel
theorem dX4_lackOf_9 : decode cX4_lackOf 9 = .ok (.ldc 48, 2) := by decide +kernel
theorem dX4_lackOf_11 : decode cX4_lackOf 11 = .ok (.ireturn, 1) := by decide +kernel
theorem dX4_lackOf_12 : decode cX4_lackOf 12 = .ok (.aload_n 0, 1) := by decide +kernel
theorem dX4_lackOf_13 : decode cX4_lackOf 13 = .ok (.getfield 35, 3) := by decide +kernel
theorem dX4_lackOf_16 : decode cX4_lackOf 16 = .ok (.iload_n 1, 1) := by decide +kernel
theorem dX4_lackOf_17 : decode cX4_lackOf 17 = .ok (.aaload, 1) := by decide +kernel
theorem dX4_lackOf_18 : decode cX4_lackOf 18 = .ok (.invokevirtual 246, 3) := by decide +kernel
theorem dX4_lackOf_21 : decode cX4_lackOf 21 = .ok (.ifCond .eq 8, 3) := by decide +kernel
theorem dX4_lackOf_24 : decode cX4_lackOf 24 = .ok (.ldc 224, 2) := by decide +kernel
theorem dX4_lackOf_26 : decode cX4_lackOf 26 = .ok (.goto 4, 3) := by decide +kernel
theorem dX4_lackOf_29 : decode cX4_lackOf 29 = .ok (.iconst 0, 1) := by decide +kernel
theorem dX4_lackOf_30 : decode cX4_lackOf 30 = .ok (.ireturn, 1) := by decide +kernel
theorem dX4_lackFor_0 : decode cX4_lackFor 0 = .ok (.aload_n 0, 1) := by decide +kernel
theorem dX4_lackFor_1 : decode cX4_lackFor 1 = .ok (.iload_n 1, 1) := by decide +kernel
theorem dX4_lackFor_2 : decode cX4_lackFor 2 = .ok (.invokevirtual 237, 3) := by decide +kernel
theorem dX4_lackFor_5 : decode cX4_lackFor 5 = .ok (.istore_n 3, 1) := by decide +kernel
theorem dX4_lackFor_6 : decode cX4_lackFor 6 = .ok (.iload_n 3, 1) := by decide +kernel
theorem dX4_lackFor_7 : decode cX4_lackFor 7 = .ok (.ifCond .eq 5, 3) := by decide +kernel
theorem dX4_lackFor_10 : decode cX4_lackFor 10 = .ok (.iload_n 3, 1) := by decide +kernel
theorem dX4_lackFor_11 : decode cX4_lackFor 11 = .ok (.ireturn, 1) := by decide +kernel
theorem dX4_lackFor_12 : decode cX4_lackFor 12 = .ok (.aload_n 0, 1) := by decide +kernel
theorem dX4_lackFor_13 : decode cX4_lackFor 13 = .ok (.getfield 12, 3) := by decide +kernel
theorem dX4_lackFor_16 : decode cX4_lackFor 16 = .ok (.iload_n 2, 1) := by decide +kernel
theorem dX4_lackFor_17 : decode cX4_lackFor 17 = .ok (.invokevirtual 67, 3) := by decide +kernel
theorem dX4_lackFor_20 : decode cX4_lackFor 20 = .ok (.ifCond .eq 7, 3) := by decide +kernel
theorem dX4_lackFor_23 : decode cX4_lackFor 23 = .ok (.iconst 0, 1) := by decide +kernel
theorem dX4_lackFor_24 : decode cX4_lackFor 24 = .ok (.goto 5, 3) := by decide +kernel
theorem dX4_lackFor_27 : decode cX4_lackFor 27 = .ok (.ldc 48, 2) := by decide +kernel
theorem dX4_lackFor_29 : decode cX4_lackFor 29 = .ok (.ireturn, 1) := by decide +kernel
theorem dX4_beginTrial_0 : decode cX4_beginTrial 0 = .ok (.aload_n 0, 1) := by decide +kernel
theorem dX4_beginTrial_1 : decode cX4_beginTrial 1 = .ok (.getfield 16, 3) := by decide +kernel
theorem dX4_beginTrial_4 : decode cX4_beginTrial 4 = .ok (.aload_n 0, 1) := by decide +kernel
theorem dX4_beginTrial_5 : decode cX4_beginTrial 5 = .ok (.getfield 12, 3) := by decide +kernel
theorem dX4_beginTrial_8 : decode cX4_beginTrial 8 = .ok (.invokevirtual 217, 3) := by decide +kernel
theorem dX4_beginTrial_11 : decode cX4_beginTrial 11 = .ok (.return_, 1) := by decide +kernel
theorem dX4_tryWith_0 : decode cX4_tryWith 0 = .ok (.aload_n 0, 1) := by decide +kernel
theorem dX4_tryWith_1 : decode cX4_tryWith 1 = .ok (.invokevirtual 135, 3) := by decide +kernel
theorem dX4_tryWith_4 : decode cX4_tryWith 4 = .ok (.iload_n 1, 1) := by decide +kernel
theorem dX4_tryWith_5 : decode cX4_tryWith 5 = .ok (.iload_n 2, 1) := by decide +kernel
theorem dX4_tryWith_6 : decode cX4_tryWith 6 = .ok (.invokestatic 44, 3) := by decide +kernel
theorem dX4_tryWith_9 : decode cX4_tryWith 9 = .ok (.ifCond .eq 13, 3) := by decide +kernel
theorem dX4_tryWith_12 : decode cX4_tryWith 12 = .ok (.aload_n 0, 1) := by decide +kernel
theorem dX4_tryWith_13 : decode cX4_tryWith 13 = .ok (.getfield 16, 3) := by decide +kernel
theorem dX4_tryWith_16 : decode cX4_tryWith 16 = .ok (.getfield 53, 3) := by decide +kernel
theorem dX4_tryWith_19 : decode cX4_tryWith 19 = .ok (.iload_n 1, 1) := by decide +kernel
theorem dX4_tryWith_20 : decode cX4_tryWith 20 = .ok (.iload_n 2, 1) := by decide +kernel
theorem dX4_tryWith_21 : decode cX4_tryWith 21 = .ok (.iastore, 1) := by decide +kernel
theorem dX4_tryWith_22 : decode cX4_tryWith 22 = .ok (.aload_n 0, 1) := by decide +kernel
theorem dX4_tryWith_23 : decode cX4_tryWith 23 = .ok (.getfield 16, 3) := by decide +kernel
theorem dX4_tryWith_26 : decode cX4_tryWith 26 = .ok (.iload_n 3, 1) := by decide +kernel
theorem dX4_tryWith_27 : decode cX4_tryWith 27 = .ok (.invokevirtual 107, 3) := by decide +kernel
theorem dX4_tryWith_30 : decode cX4_tryWith 30 = .ok (.return_, 1) := by decide +kernel
theorem dX4_bestChoice_0 : decode cX4_bestChoice 0 = .ok (.aload_n 0, 1) := by decide +kernel
theorem dX4_bestChoice_1 : decode cX4_bestChoice 1 = .ok (.getfield 12, 3) := by decide +kernel
theorem dX4_bestChoice_4 : decode cX4_bestChoice 4 = .ok (.iload_n 3, 1) := by decide +kernel
theorem dX4_bestChoice_5 : decode cX4_bestChoice 5 = .ok (.invokevirtual 67, 3) := by decide +kernel
theorem dX4_bestChoice_8 : decode cX4_bestChoice 8 = .ok (.ifCond .eq 14, 3) := by decide +kernel
theorem dX4_bestChoice_11 : decode cX4_bestChoice 11 = .ok (.iload 4, 2) := by decide +kernel
theorem dX4_bestChoice_13 : decode cX4_bestChoice 13 = .ok (.iconst 0, 1) := by decide +kernel
theorem dX4_bestChoice_14 : decode cX4_bestChoice 14 = .ok (.bipush 40, 2) := by decide +kernel
theorem dX4_bestChoice_16 : decode cX4_bestChoice 16 = .ok (.invokestatic 56, 3) := by decide +kernel
theorem dX4_bestChoice_19 : decode cX4_bestChoice 19 = .ok (.ifCond .ne 10, 3) := by decide +kernel
theorem dX4_bestChoice_22 : decode cX4_bestChoice 22 = .ok (.aload_n 0, 1) := by decide +kernel
theorem dX4_bestChoice_23 : decode cX4_bestChoice 23 = .ok (.ldc 48, 2) := by decide +kernel
theorem dX4_bestChoice_25 : decode cX4_bestChoice 25 = .ok (.invokevirtual 49, 3) := by decide +kernel
theorem dX4_bestChoice_28 : decode cX4_bestChoice 28 = .ok (.ireturn, 1) := by decide +kernel
theorem dX4_bestChoice_29 : decode cX4_bestChoice 29 = .ok (.iconst 0, 1) := by decide +kernel
theorem dX4_bestChoice_30 : decode cX4_bestChoice 30 = .ok (.istore 5, 2) := by decide +kernel
theorem dX4_bestChoice_32 : decode cX4_bestChoice 32 = .ok (.iconst (-1), 1) := by decide +kernel
theorem dX4_bestChoice_33 : decode cX4_bestChoice 33 = .ok (.istore 6, 2) := by decide +kernel
theorem dX4_bestChoice_35 : decode cX4_bestChoice 35 = .ok (.iconst 0, 1) := by decide +kernel
theorem dX4_bestChoice_36 : decode cX4_bestChoice 36 = .ok (.istore 7, 2) := by decide +kernel
theorem dX4_bestChoice_38 : decode cX4_bestChoice 38 = .ok (.iload 7, 2) := by decide +kernel
theorem dX4_bestChoice_40 : decode cX4_bestChoice 40 = .ok (.iload_n 2, 1) := by decide +kernel
theorem dX4_bestChoice_41 : decode cX4_bestChoice 41 = .ok (.if_icmp .ge 59, 3) := by decide +kernel
theorem dX4_bestChoice_44 : decode cX4_bestChoice 44 = .ok (.aload_n 0, 1) := by decide +kernel
theorem dX4_bestChoice_45 : decode cX4_bestChoice 45 = .ok (.invokevirtual 135, 3) := by decide +kernel
theorem dX4_bestChoice_48 : decode cX4_bestChoice 48 = .ok (.aload_n 0, 1) := by decide +kernel
theorem dX4_bestChoice_49 : decode cX4_bestChoice 49 = .ok (.iload_n 1, 1) := by decide +kernel
theorem dX4_bestChoice_50 : decode cX4_bestChoice 50 = .ok (.iload 7, 2) := by decide +kernel
theorem dX4_bestChoice_52 : decode cX4_bestChoice 52 = .ok (.iload_n 3, 1) := by decide +kernel
theorem dX4_bestChoice_53 : decode cX4_bestChoice 53 = .ok (.invokevirtual 267, 3) := by decide +kernel
theorem dX4_bestChoice_56 : decode cX4_bestChoice 56 = .ok (.aload_n 0, 1) := by decide +kernel
theorem dX4_bestChoice_57 : decode cX4_bestChoice 57 = .ok (.getfield 16, 3) := by decide +kernel
theorem dX4_bestChoice_60 : decode cX4_bestChoice 60 = .ok (.iload 4, 2) := by decide +kernel
theorem dX4_bestChoice_62 : decode cX4_bestChoice 62 = .ok (.invokevirtual 107, 3) := by decide +kernel
theorem dX4_bestChoice_65 : decode cX4_bestChoice 65 = .ok (.aload_n 0, 1) := by decide +kernel
theorem dX4_bestChoice_66 : decode cX4_bestChoice 66 = .ok (.getfield 16, 3) := by decide +kernel
theorem dX4_bestChoice_69 : decode cX4_bestChoice 69 = .ok (.getfield 71, 3) := by decide +kernel
theorem dX4_bestChoice_72 : decode cX4_bestChoice 72 = .ok (.iload_n 3, 1) := by decide +kernel
theorem dX4_bestChoice_73 : decode cX4_bestChoice 73 = .ok (.aaload, 1) := by decide +kernel
theorem dX4_bestChoice_74 : decode cX4_bestChoice 74 = .ok (.getfield 261, 3) := by decide +kernel
theorem dX4_bestChoice_77 : decode cX4_bestChoice 77 = .ok (.istore 8, 2) := by decide +kernel
theorem dX4_bestChoice_79 : decode cX4_bestChoice 79 = .ok (.iload 8, 2) := by decide +kernel
theorem dX4_bestChoice_81 : decode cX4_bestChoice 81 = .ok (.iload 6, 2) := by decide +kernel
theorem dX4_bestChoice_83 : decode cX4_bestChoice 83 = .ok (.if_icmp .le 11, 3) := by decide +kernel
theorem dX4_bestChoice_86 : decode cX4_bestChoice 86 = .ok (.iload 8, 2) := by decide +kernel
theorem dX4_bestChoice_88 : decode cX4_bestChoice 88 = .ok (.istore 6, 2) := by decide +kernel
theorem dX4_bestChoice_90 : decode cX4_bestChoice 90 = .ok (.iload 7, 2) := by decide +kernel
theorem dX4_bestChoice_92 : decode cX4_bestChoice 92 = .ok (.istore 5, 2) := by decide +kernel
theorem dX4_bestChoice_94 : decode cX4_bestChoice 94 = .ok (.iinc 7 1, 3) := by decide +kernel
theorem dX4_bestChoice_97 : decode cX4_bestChoice 97 = .ok (.goto (-59), 3) := by decide +kernel
theorem dX4_bestChoice_100 : decode cX4_bestChoice 100 = .ok (.iload 5, 2) := by decide +kernel
theorem dX4_bestChoice_102 : decode cX4_bestChoice 102 = .ok (.ireturn, 1) := by decide +kernel
theorem dX4_suppose_0 : decode cX4_suppose 0 = .ok (.iload_n 1, 1) := by decide +kernel
theorem dX4_suppose_1 : decode cX4_suppose 1 = .ok (.lookupswitch 61 #[(0, 27), (1, 45)], 27) := by decide +kernel
theorem dX4_suppose_28 : decode cX4_suppose 28 = .ok (.aload_n 0, 1) := by decide +kernel
theorem dX4_suppose_29 : decode cX4_suppose 29 = .ok (.getfield 16, 3) := by decide +kernel
theorem dX4_suppose_32 : decode cX4_suppose 32 = .ok (.getfield 60, 3) := by decide +kernel
theorem dX4_suppose_35 : decode cX4_suppose 35 = .ok (.iload_n 2, 1) := by decide +kernel
theorem dX4_suppose_36 : decode cX4_suppose 36 = .ok (.dup2, 1) := by decide +kernel
theorem dX4_suppose_37 : decode cX4_suppose 37 = .ok (.iaload, 1) := by decide +kernel
theorem dX4_suppose_38 : decode cX4_suppose 38 = .ok (.iconst 1, 1) := by decide +kernel
theorem dX4_suppose_39 : decode cX4_suppose 39 = .ok (.iload_n 3, 1) := by decide +kernel
theorem dX4_suppose_40 : decode cX4_suppose 40 = .ok (.ishl, 1) := by decide +kernel
theorem dX4_suppose_41 : decode cX4_suppose 41 = .ok (.ior, 1) := by decide +kernel
theorem dX4_suppose_42 : decode cX4_suppose 42 = .ok (.iastore, 1) := by decide +kernel
theorem dX4_suppose_43 : decode cX4_suppose 43 = .ok (.goto 37, 3) := by decide +kernel
theorem dX4_suppose_46 : decode cX4_suppose 46 = .ok (.aload_n 0, 1) := by decide +kernel
theorem dX4_suppose_47 : decode cX4_suppose 47 = .ok (.getfield 16, 3) := by decide +kernel
theorem dX4_suppose_50 : decode cX4_suppose 50 = .ok (.getfield 71, 3) := by decide +kernel
theorem dX4_suppose_53 : decode cX4_suppose 53 = .ok (.iload_n 3, 1) := by decide +kernel
theorem dX4_suppose_54 : decode cX4_suppose 54 = .ok (.aaload, 1) := by decide +kernel
theorem dX4_suppose_55 : decode cX4_suppose 55 = .ok (.iload_n 2, 1) := by decide +kernel
theorem dX4_suppose_56 : decode cX4_suppose 56 = .ok (.putfield 225, 3) := by decide +kernel
theorem dX4_suppose_59 : decode cX4_suppose 59 = .ok (.goto 21, 3) := by decide +kernel
theorem dX4_suppose_62 : decode cX4_suppose 62 = .ok (.aload_n 0, 1) := by decide +kernel
theorem dX4_suppose_63 : decode cX4_suppose 63 = .ok (.getfield 16, 3) := by decide +kernel
theorem dX4_suppose_66 : decode cX4_suppose 66 = .ok (.getfield 71, 3) := by decide +kernel
theorem dX4_suppose_69 : decode cX4_suppose 69 = .ok (.iload_n 3, 1) := by decide +kernel
theorem dX4_suppose_70 : decode cX4_suppose 70 = .ok (.aaload, 1) := by decide +kernel
theorem dX4_suppose_71 : decode cX4_suppose 71 = .ok (.aload_n 0, 1) := by decide +kernel
theorem dX4_suppose_72 : decode cX4_suppose 72 = .ok (.iload_n 2, 1) := by decide +kernel
theorem dX4_suppose_73 : decode cX4_suppose 73 = .ok (.iload_n 3, 1) := by decide +kernel
theorem dX4_suppose_74 : decode cX4_suppose 74 = .ok (.invokevirtual 171, 3) := by decide +kernel
theorem dX4_suppose_77 : decode cX4_suppose 77 = .ok (.putfield 270, 3) := by decide +kernel
theorem dX4_suppose_80 : decode cX4_suppose 80 = .ok (.return_, 1) := by decide +kernel
theorem dX4_friendOfChoice_0 : decode cX4_friendOfChoice 0 = .ok (.iload_n 1, 1) := by decide +kernel
theorem dX4_friendOfChoice_1 : decode cX4_friendOfChoice 1 = .ok (.iload_n 2, 1) := by decide +kernel
theorem dX4_friendOfChoice_2 : decode cX4_friendOfChoice 2 = .ok (.if_icmp .ge 7, 3) := by decide +kernel
theorem dX4_friendOfChoice_5 : decode cX4_friendOfChoice 5 = .ok (.iload_n 1, 1) := by decide +kernel
theorem dX4_friendOfChoice_6 : decode cX4_friendOfChoice 6 = .ok (.goto 6, 3) := by decide +kernel
theorem dX4_friendOfChoice_9 : decode cX4_friendOfChoice 9 = .ok (.iload_n 1, 1) := by decide +kernel
theorem dX4_friendOfChoice_10 : decode cX4_friendOfChoice 10 = .ok (.iconst 1, 1) := by decide +kernel
theorem dX4_friendOfChoice_11 : decode cX4_friendOfChoice 11 = .ok (.iadd, 1) := by decide +kernel
theorem dX4_friendOfChoice_12 : decode cX4_friendOfChoice 12 = .ok (.istore_n 3, 1) := by decide +kernel
theorem dX4_friendOfChoice_13 : decode cX4_friendOfChoice 13 = .ok (.iload_n 3, 1) := by decide +kernel
theorem dX4_friendOfChoice_14 : decode cX4_friendOfChoice 14 = .ok (.aload_n 0, 1) := by decide +kernel
theorem dX4_friendOfChoice_15 : decode cX4_friendOfChoice 15 = .ok (.getfield 12, 3) := by decide +kernel
theorem dX4_friendOfChoice_18 : decode cX4_friendOfChoice 18 = .ok (.getfield 147, 3) := by decide +kernel
theorem dX4_friendOfChoice_21 : decode cX4_friendOfChoice 21 = .ok (.if_icmp .ge 7, 3) := by decide +kernel
theorem dX4_friendOfChoice_24 : decode cX4_friendOfChoice 24 = .ok (.iload_n 3, 1) := by decide +kernel
theorem dX4_friendOfChoice_25 : decode cX4_friendOfChoice 25 = .ok (.goto 4, 3) := by decide +kernel
theorem dX4_friendOfChoice_28 : decode cX4_friendOfChoice 28 = .ok (.iconst (-1), 1) := by decide +kernel
theorem dX4_friendOfChoice_29 : decode cX4_friendOfChoice 29 = .ok (.ireturn, 1) := by decide +kernel
theorem dX4_firstSunday_0 : decode cX4_firstSunday 0 = .ok (.aload_n 0, 1) := by decide +kernel
theorem dX4_firstSunday_1 : decode cX4_firstSunday 1 = .ok (.invokevirtual 135, 3) := by decide +kernel
theorem dX4_firstSunday_4 : decode cX4_firstSunday 4 = .ok (.iconst 0, 1) := by decide +kernel
theorem dX4_firstSunday_5 : decode cX4_firstSunday 5 = .ok (.istore 4, 2) := by decide +kernel
theorem dX4_firstSunday_7 : decode cX4_firstSunday 7 = .ok (.iload 4, 2) := by decide +kernel
theorem dX4_firstSunday_9 : decode cX4_firstSunday 9 = .ok (.sipush 200, 3) := by decide +kernel
theorem dX4_firstSunday_12 : decode cX4_firstSunday 12 = .ok (.if_icmp .gt 36, 3) := by decide +kernel
theorem dX4_firstSunday_15 : decode cX4_firstSunday 15 = .ok (.aload_n 0, 1) := by decide +kernel
theorem dX4_firstSunday_16 : decode cX4_firstSunday 16 = .ok (.getfield 16, 3) := by decide +kernel
theorem dX4_firstSunday_19 : decode cX4_firstSunday 19 = .ok (.getfield 71, 3) := by decide +kernel
theorem dX4_firstSunday_22 : decode cX4_firstSunday 22 = .ok (.iload_n 1, 1) := by decide +kernel
theorem dX4_firstSunday_23 : decode cX4_firstSunday 23 = .ok (.aaload, 1) := by decide +kernel
theorem dX4_firstSunday_24 : decode cX4_firstSunday 24 = .ok (.iload_n 2, 1) := by decide +kernel
theorem dX4_firstSunday_25 : decode cX4_firstSunday 25 = .ok (.iload_n 3, 1) := by decide +kernel
theorem dX4_firstSunday_26 : decode cX4_firstSunday 26 = .ok (.invokevirtual 273, 3) := by decide +kernel
theorem dX4_firstSunday_29 : decode cX4_firstSunday 29 = .ok (.ifCond .eq 6, 3) := by decide +kernel
theorem dX4_firstSunday_32 : decode cX4_firstSunday 32 = .ok (.iload 4, 2) := by decide +kernel
theorem dX4_firstSunday_34 : decode cX4_firstSunday 34 = .ok (.ireturn, 1) := by decide +kernel
theorem dX4_firstSunday_35 : decode cX4_firstSunday 35 = .ok (.aload_n 0, 1) := by decide +kernel
theorem dX4_firstSunday_36 : decode cX4_firstSunday 36 = .ok (.getfield 16, 3) := by decide +kernel
theorem dX4_firstSunday_39 : decode cX4_firstSunday 39 = .ok (.invokevirtual 150, 3) := by decide +kernel
theorem dX4_firstSunday_42 : decode cX4_firstSunday 42 = .ok (.iinc 4 1, 3) := by decide +kernel
theorem dX4_firstSunday_45 : decode cX4_firstSunday 45 = .ok (.goto (-38), 3) := by decide +kernel
theorem dX4_firstSunday_48 : decode cX4_firstSunday 48 = .ok (.aload_n 0, 1) := by decide +kernel
theorem dX4_firstSunday_49 : decode cX4_firstSunday 49 = .ok (.ldc 153, 2) := by decide +kernel
theorem dX4_firstSunday_51 : decode cX4_firstSunday 51 = .ok (.invokevirtual 49, 3) := by decide +kernel
theorem dX4_firstSunday_54 : decode cX4_firstSunday 54 = .ok (.ireturn, 1) := by decide +kernel
theorem dX4_moodFits_0 : decode cX4_moodFits 0 = .ok (.aload_n 0, 1) := by decide +kernel
theorem dX4_moodFits_1 : decode cX4_moodFits 1 = .ok (.invokevirtual 135, 3) := by decide +kernel
theorem dX4_moodFits_4 : decode cX4_moodFits 4 = .ok (.aload_n 0, 1) := by decide +kernel
theorem dX4_moodFits_5 : decode cX4_moodFits 5 = .ok (.getfield 16, 3) := by decide +kernel
theorem dX4_moodFits_8 : decode cX4_moodFits 8 = .ok (.getfield 71, 3) := by decide +kernel
theorem dX4_moodFits_11 : decode cX4_moodFits 11 = .ok (.iload_n 2, 1) := by decide +kernel
theorem dX4_moodFits_12 : decode cX4_moodFits 12 = .ok (.aaload, 1) := by decide +kernel
theorem dX4_moodFits_13 : decode cX4_moodFits 13 = .ok (.iload_n 3, 1) := by decide +kernel
theorem dX4_moodFits_14 : decode cX4_moodFits 14 = .ok (.putfield 261, 3) := by decide +kernel
theorem dX4_moodFits_17 : decode cX4_moodFits 17 = .ok (.aload_n 0, 1) := by decide +kernel
theorem dX4_moodFits_18 : decode cX4_moodFits 18 = .ok (.aload_n 1, 1) := by decide +kernel
theorem dX4_moodFits_19 : decode cX4_moodFits 19 = .ok (.aload_n 0, 1) := by decide +kernel
theorem dX4_moodFits_20 : decode cX4_moodFits 20 = .ok (.getfield 16, 3) := by decide +kernel
theorem dX4_moodFits_23 : decode cX4_moodFits 23 = .ok (.getfield 71, 3) := by decide +kernel
theorem dX4_moodFits_26 : decode cX4_moodFits 26 = .ok (.iload_n 2, 1) := by decide +kernel
theorem dX4_moodFits_27 : decode cX4_moodFits 27 = .ok (.aaload, 1) := by decide +kernel
theorem dX4_moodFits_28 : decode cX4_moodFits 28 = .ok (.iconst 1, 1) := by decide +kernel
theorem dX4_moodFits_29 : decode cX4_moodFits 29 = .ok (.invokevirtual 276, 3) := by decide +kernel
theorem dX4_moodFits_32 : decode cX4_moodFits 32 = .ok (.ireturn, 1) := by decide +kernel
theorem dX4_kindFits_0 : decode cX4_kindFits 0 = .ok (.aload_n 0, 1) := by decide +kernel
theorem dX4_kindFits_1 : decode cX4_kindFits 1 = .ok (.invokevirtual 135, 3) := by decide +kernel
theorem dX4_kindFits_4 : decode cX4_kindFits 4 = .ok (.aload_n 0, 1) := by decide +kernel
theorem dX4_kindFits_5 : decode cX4_kindFits 5 = .ok (.getfield 16, 3) := by decide +kernel
theorem dX4_kindFits_8 : decode cX4_kindFits 8 = .ok (.getfield 71, 3) := by decide +kernel
theorem dX4_kindFits_11 : decode cX4_kindFits 11 = .ok (.iload_n 2, 1) := by decide +kernel
theorem dX4_kindFits_12 : decode cX4_kindFits 12 = .ok (.aaload, 1) := by decide +kernel
theorem dX4_kindFits_13 : decode cX4_kindFits 13 = .ok (.iload_n 3, 1) := by decide +kernel
theorem dX4_kindFits_14 : decode cX4_kindFits 14 = .ok (.putfield 225, 3) := by decide +kernel
theorem dX4_kindFits_17 : decode cX4_kindFits 17 = .ok (.aload_n 0, 1) := by decide +kernel
theorem dX4_kindFits_18 : decode cX4_kindFits 18 = .ok (.aload_n 1, 1) := by decide +kernel
theorem dX4_kindFits_19 : decode cX4_kindFits 19 = .ok (.aload_n 0, 1) := by decide +kernel
theorem dX4_kindFits_20 : decode cX4_kindFits 20 = .ok (.getfield 16, 3) := by decide +kernel
theorem dX4_kindFits_23 : decode cX4_kindFits 23 = .ok (.getfield 71, 3) := by decide +kernel
theorem dX4_kindFits_26 : decode cX4_kindFits 26 = .ok (.iload_n 2, 1) := by decide +kernel
theorem dX4_kindFits_27 : decode cX4_kindFits 27 = .ok (.aaload, 1) := by decide +kernel
theorem dX4_kindFits_28 : decode cX4_kindFits 28 = .ok (.iconst 0, 1) := by decide +kernel
theorem dX4_kindFits_29 : decode cX4_kindFits 29 = .ok (.invokevirtual 276, 3) := by decide +kernel
theorem dX4_kindFits_32 : decode cX4_kindFits 32 = .ok (.ireturn, 1) := by decide +kernel
theorem dX4_goesAsTold_0 : decode cX4_goesAsTold 0 = .ok (.iconst 0, 1) := by decide +kernel
theorem dX4_goesAsTold_1 : decode cX4_goesAsTold 1 = .ok (.istore 4, 2) := by decide +kernel
theorem dX4_goesAsTold_3 : decode cX4_goesAsTold 3 = .ok (.iload 4, 2) := by decide +kernel
theorem dX4_goesAsTold_5 : decode cX4_goesAsTold 5 = .ok (.aload_n 1, 1) := by decide +kernel
theorem dX4_goesAsTold_6 : decode cX4_goesAsTold 6 = .ok (.getfield 236, 3) := by decide +kernel
theorem dX4_goesAsTold_9 : decode cX4_goesAsTold 9 = .ok (.if_icmp .ge 63, 3) := by decide +kernel
theorem dX4_goesAsTold_12 : decode cX4_goesAsTold 12 = .ok (.iload 4, 2) := by decide +kernel
theorem dX4_goesAsTold_14 : decode cX4_goesAsTold 14 = .ok (.ifCond .le 10, 3) := by decide +kernel
theorem dX4_goesAsTold_17 : decode cX4_goesAsTold 17 = .ok (.aload_n 0, 1) := by decide +kernel
theorem dX4_goesAsTold_18 : decode cX4_goesAsTold 18 = .ok (.getfield 16, 3) := by decide +kernel
theorem dX4_goesAsTold_21 : decode cX4_goesAsTold 21 = .ok (.invokevirtual 150, 3) := by decide +kernel
theorem dX4_goesAsTold_24 : decode cX4_goesAsTold 24 = .ok (.iload_n 3, 1) := by decide +kernel
theorem dX4_goesAsTold_25 : decode cX4_goesAsTold 25 = .ok (.ifCond .eq 10, 3) := by decide +kernel
theorem dX4_goesAsTold_28 : decode cX4_goesAsTold 28 = .ok (.aload_n 2, 1) := by decide +kernel
theorem dX4_goesAsTold_29 : decode cX4_goesAsTold 29 = .ok (.invokevirtual 280, 3) := by decide +kernel
theorem dX4_goesAsTold_32 : decode cX4_goesAsTold 32 = .ok (.goto 7, 3) := by decide +kernel
theorem dX4_goesAsTold_35 : decode cX4_goesAsTold 35 = .ok (.aload_n 2, 1) := by decide +kernel
theorem dX4_goesAsTold_36 : decode cX4_goesAsTold 36 = .ok (.getfield 261, 3) := by decide +kernel
theorem dX4_goesAsTold_39 : decode cX4_goesAsTold 39 = .ok (.istore 5, 2) := by decide +kernel
theorem dX4_goesAsTold_41 : decode cX4_goesAsTold 41 = .ok (.aload_n 1, 1) := by decide +kernel
theorem dX4_goesAsTold_42 : decode cX4_goesAsTold 42 = .ok (.getfield 240, 3) := by decide +kernel
theorem dX4_goesAsTold_45 : decode cX4_goesAsTold 45 = .ok (.iload 4, 2) := by decide +kernel
theorem dX4_goesAsTold_47 : decode cX4_goesAsTold 47 = .ok (.iaload, 1) := by decide +kernel
theorem dX4_goesAsTold_48 : decode cX4_goesAsTold 48 = .ok (.iconst (-1), 1) := by decide +kernel
theorem dX4_goesAsTold_49 : decode cX4_goesAsTold 49 = .ok (.if_icmp .eq 17, 3) := by decide +kernel
theorem dX4_goesAsTold_52 : decode cX4_goesAsTold 52 = .ok (.aload_n 1, 1) := by decide +kernel
theorem dX4_goesAsTold_53 : decode cX4_goesAsTold 53 = .ok (.getfield 240, 3) := by decide +kernel
theorem dX4_goesAsTold_56 : decode cX4_goesAsTold 56 = .ok (.iload 4, 2) := by decide +kernel
theorem dX4_goesAsTold_58 : decode cX4_goesAsTold 58 = .ok (.iaload, 1) := by decide +kernel
theorem dX4_goesAsTold_59 : decode cX4_goesAsTold 59 = .ok (.iload 5, 2) := by decide +kernel
theorem dX4_goesAsTold_61 : decode cX4_goesAsTold 61 = .ok (.if_icmp .eq 5, 3) := by decide +kernel
theorem dX4_goesAsTold_64 : decode cX4_goesAsTold 64 = .ok (.iconst 0, 1) := by decide +kernel
theorem dX4_goesAsTold_65 : decode cX4_goesAsTold 65 = .ok (.ireturn, 1) := by decide +kernel
theorem dX4_goesAsTold_66 : decode cX4_goesAsTold 66 = .ok (.iinc 4 1, 3) := by decide +kernel
theorem dX4_goesAsTold_69 : decode cX4_goesAsTold 69 = .ok (.goto (-66), 3) := by decide +kernel
theorem dX4_goesAsTold_72 : decode cX4_goesAsTold 72 = .ok (.iconst 1, 1) := by decide +kernel
theorem dX4_goesAsTold_73 : decode cX4_goesAsTold 73 = .ok (.ireturn, 1) := by decide +kernel
theorem dX4_within_0 : decode cX4_within 0 = .ok (.iload_n 0, 1) := by decide +kernel
theorem dX4_within_1 : decode cX4_within 1 = .ok (.iload_n 1, 1) := by decide +kernel
theorem dX4_within_2 : decode cX4_within 2 = .ok (.if_icmp .lt 12, 3) := by decide +kernel
theorem dX4_within_5 : decode cX4_within 5 = .ok (.iload_n 0, 1) := by decide +kernel
theorem dX4_within_6 : decode cX4_within 6 = .ok (.iload_n 2, 1) := by decide +kernel
theorem dX4_within_7 : decode cX4_within 7 = .ok (.if_icmp .gt 7, 3) := by decide +kernel
theorem dX4_within_10 : decode cX4_within 10 = .ok (.iconst 1, 1) := by decide +kernel
theorem dX4_within_11 : decode cX4_within 11 = .ok (.goto 4, 3) := by decide +kernel
theorem dX4_within_14 : decode cX4_within 14 = .ok (.iconst 0, 1) := by decide +kernel
theorem dX4_within_15 : decode cX4_within 15 = .ok (.ireturn, 1) := by decide +kernel
theorem dX4_isIn_0 : decode cX4_isIn 0 = .ok (.iload_n 1, 1) := by decide +kernel
theorem dX4_isIn_1 : decode cX4_isIn 1 = .ok (.ifCond .lt 16, 3) := by decide +kernel
theorem dX4_isIn_4 : decode cX4_isIn 4 = .ok (.iload_n 0, 1) := by decide +kernel
theorem dX4_isIn_5 : decode cX4_isIn 5 = .ok (.iload_n 1, 1) := by decide +kernel
theorem dX4_isIn_6 : decode cX4_isIn 6 = .ok (.ishr, 1) := by decide +kernel
theorem dX4_isIn_7 : decode cX4_isIn 7 = .ok (.iconst 1, 1) := by decide +kernel
theorem dX4_isIn_8 : decode cX4_isIn 8 = .ok (.iand, 1) := by decide +kernel
theorem dX4_isIn_9 : decode cX4_isIn 9 = .ok (.iconst 1, 1) := by decide +kernel
theorem dX4_isIn_10 : decode cX4_isIn 10 = .ok (.if_icmp .ne 7, 3) := by decide +kernel
theorem dX4_isIn_13 : decode cX4_isIn 13 = .ok (.iconst 1, 1) := by decide +kernel
theorem dX4_isIn_14 : decode cX4_isIn 14 = .ok (.goto 4, 3) := by decide +kernel
theorem dX4_isIn_17 : decode cX4_isIn 17 = .ok (.iconst 0, 1) := by decide +kernel
theorem dX4_isIn_18 : decode cX4_isIn 18 = .ok (.ireturn, 1) := by decide +kernel
theorem dX4_leastSetting_0 : decode cX4_leastSetting 0 = .ok (.iload_n 0, 1) := by decide +kernel
theorem dX4_leastSetting_1 : decode cX4_leastSetting 1 = .ok (.iconst 3, 1) := by decide +kernel
theorem dX4_leastSetting_2 : decode cX4_leastSetting 2 = .ok (.if_icmp .ne 7, 3) := by decide +kernel
theorem dX4_leastSetting_5 : decode cX4_leastSetting 5 = .ok (.iconst 1, 1) := by decide +kernel
theorem dX4_leastSetting_6 : decode cX4_leastSetting 6 = .ok (.goto 4, 3) := by decide +kernel
theorem dX4_leastSetting_9 : decode cX4_leastSetting 9 = .ok (.iconst 0, 1) := by decide +kernel
theorem dX4_leastSetting_10 : decode cX4_leastSetting 10 = .ok (.ireturn, 1) := by decide +kernel
theorem dX4_mostSetting_0 : decode cX4_mostSetting 0 = .ok (.iload_n 0, 1) := by decide +kernel
theorem dX4_mostSetting_1 : decode cX4_mostSetting 1 = .ok (.lookupswitch 33 #[(2, 27), (3, 30)], 27) := by decide +kernel
theorem dX4_mostSetting_28 : decode cX4_mostSetting 28 = .ok (.bipush 8, 2) := by decide +kernel
theorem dX4_mostSetting_30 : decode cX4_mostSetting 30 = .ok (.ireturn, 1) := by decide +kernel
theorem dX4_mostSetting_31 : decode cX4_mostSetting 31 = .ok (.bipush 12, 2) := by decide +kernel
theorem dX4_mostSetting_33 : decode cX4_mostSetting 33 = .ok (.ireturn, 1) := by decide +kernel
theorem dX4_mostSetting_34 : decode cX4_mostSetting 34 = .ok (.bipush 20, 2) := by decide +kernel
theorem dX4_mostSetting_36 : decode cX4_mostSetting 36 = .ok (.ireturn, 1) := by decide +kernel
theorem dX4_settingFits_0 : decode cX4_settingFits 0 = .ok (.iload_n 0, 1) := by decide +kernel
theorem dX4_settingFits_1 : decode cX4_settingFits 1 = .ok (.iconst 0, 1) := by decide +kernel
theorem dX4_settingFits_2 : decode cX4_settingFits 2 = .ok (.iconst 3, 1) := by decide +kernel
theorem dX4_settingFits_3 : decode cX4_settingFits 3 = .ok (.invokestatic 56, 3) := by decide +kernel
theorem dX4_settingFits_6 : decode cX4_settingFits 6 = .ok (.ifCond .eq 22, 3) := by decide +kernel
theorem dX4_settingFits_9 : decode cX4_settingFits 9 = .ok (.iload_n 1, 1) := by decide +kernel
theorem dX4_settingFits_10 : decode cX4_settingFits 10 = .ok (.iload_n 0, 1) := by decide +kernel
theorem dX4_settingFits_11 : decode cX4_settingFits 11 = .ok (.invokestatic 154, 3) := by decide +kernel
theorem dX4_settingFits_14 : decode cX4_settingFits 14 = .ok (.iload_n 0, 1) := by decide +kernel
theorem dX4_settingFits_15 : decode cX4_settingFits 15 = .ok (.invokestatic 157, 3) := by decide +kernel
theorem dX4_settingFits_18 : decode cX4_settingFits 18 = .ok (.invokestatic 56, 3) := by decide +kernel
theorem dX4_settingFits_21 : decode cX4_settingFits 21 = .ok (.ifCond .eq 7, 3) := by decide +kernel
theorem dX4_settingFits_24 : decode cX4_settingFits 24 = .ok (.iconst 1, 1) := by decide +kernel
theorem dX4_settingFits_25 : decode cX4_settingFits 25 = .ok (.goto 4, 3) := by decide +kernel
theorem dX4_settingFits_28 : decode cX4_settingFits 28 = .ok (.iconst 0, 1) := by decide +kernel
theorem dX4_settingFits_29 : decode cX4_settingFits 29 = .ok (.ireturn, 1) := by decide +kernel
theorem dX4_kindAbove_0 : decode cX4_kindAbove 0 = .ok (.iload_n 0, 1) := by decide +kernel
theorem dX4_kindAbove_1 : decode cX4_kindAbove 1 = .ok (.tableswitch 47 1 6 #[39, 39, 41, 43, 39, 45], 39) := by decide +kernel
theorem dX4_kindAbove_40 : decode cX4_kindAbove 40 = .ok (.iconst 0, 1) := by decide +kernel
theorem dX4_kindAbove_41 : decode cX4_kindAbove 41 = .ok (.ireturn, 1) := by decide +kernel
theorem dX4_kindAbove_42 : decode cX4_kindAbove 42 = .ok (.iconst 2, 1) := by decide +kernel
theorem dX4_kindAbove_43 : decode cX4_kindAbove 43 = .ok (.ireturn, 1) := by decide +kernel
theorem dX4_kindAbove_44 : decode cX4_kindAbove 44 = .ok (.iconst 3, 1) := by decide +kernel
theorem dX4_kindAbove_45 : decode cX4_kindAbove 45 = .ok (.ireturn, 1) := by decide +kernel
theorem dX4_kindAbove_46 : decode cX4_kindAbove 46 = .ok (.iconst 1, 1) := by decide +kernel
theorem dX4_kindAbove_47 : decode cX4_kindAbove 47 = .ok (.ireturn, 1) := by decide +kernel
theorem dX4_kindAbove_48 : decode cX4_kindAbove 48 = .ok (.iconst (-1), 1) := by decide +kernel
theorem dX4_kindAbove_49 : decode cX4_kindAbove 49 = .ok (.ireturn, 1) := by decide +kernel
theorem dX4_isUnder_0 : decode cX4_isUnder 0 = .ok (.iload_n 0, 1) := by decide +kernel
theorem dX4_isUnder_1 : decode cX4_isUnder 1 = .ok (.istore_n 2, 1) := by decide +kernel
theorem dX4_isUnder_2 : decode cX4_isUnder 2 = .ok (.iconst 0, 1) := by decide +kernel
theorem dX4_isUnder_3 : decode cX4_isUnder 3 = .ok (.istore_n 3, 1) := by decide +kernel
theorem dX4_isUnder_4 : decode cX4_isUnder 4 = .ok (.iload_n 3, 1) := by decide +kernel
theorem dX4_isUnder_5 : decode cX4_isUnder 5 = .ok (.bipush 7, 2) := by decide +kernel
theorem dX4_isUnder_7 : decode cX4_isUnder 7 = .ok (.if_icmp .ge 26, 3) := by decide +kernel
theorem dX4_isUnder_10 : decode cX4_isUnder 10 = .ok (.iload_n 2, 1) := by decide +kernel
theorem dX4_isUnder_11 : decode cX4_isUnder 11 = .ok (.iconst (-1), 1) := by decide +kernel
theorem dX4_isUnder_12 : decode cX4_isUnder 12 = .ok (.if_icmp .eq 21, 3) := by decide +kernel
theorem dX4_isUnder_15 : decode cX4_isUnder 15 = .ok (.iload_n 2, 1) := by decide +kernel
theorem dX4_isUnder_16 : decode cX4_isUnder 16 = .ok (.iload_n 1, 1) := by decide +kernel
theorem dX4_isUnder_17 : decode cX4_isUnder 17 = .ok (.if_icmp .ne 5, 3) := by decide +kernel
theorem dX4_isUnder_20 : decode cX4_isUnder 20 = .ok (.iconst 1, 1) := by decide +kernel
theorem dX4_isUnder_21 : decode cX4_isUnder 21 = .ok (.ireturn, 1) := by decide +kernel
theorem dX4_isUnder_22 : decode cX4_isUnder 22 = .ok (.iload_n 2, 1) := by decide +kernel
theorem dX4_isUnder_23 : decode cX4_isUnder 23 = .ok (.invokestatic 283, 3) := by decide +kernel
theorem dX4_isUnder_26 : decode cX4_isUnder 26 = .ok (.istore_n 2, 1) := by decide +kernel
theorem dX4_isUnder_27 : decode cX4_isUnder 27 = .ok (.iinc 3 1, 3) := by decide +kernel
theorem dX4_isUnder_30 : decode cX4_isUnder 30 = .ok (.goto (-26), 3) := by decide +kernel
theorem dX4_isUnder_33 : decode cX4_isUnder 33 = .ok (.iconst 0, 1) := by decide +kernel
theorem dX4_isUnder_34 : decode cX4_isUnder 34 = .ok (.ireturn, 1) := by decide +kernel
theorem dX4_power_0 : decode cX4_power 0 = .ok (.lconst 1, 1) := by decide +kernel
theorem dX4_power_1 : decode cX4_power 1 = .ok (.lstore_n 2, 1) := by decide +kernel
theorem dX4_power_2 : decode cX4_power 2 = .ok (.iconst 0, 1) := by decide +kernel
theorem dX4_power_3 : decode cX4_power 3 = .ok (.istore 4, 2) := by decide +kernel
theorem dX4_power_5 : decode cX4_power 5 = .ok (.iload 4, 2) := by decide +kernel
theorem dX4_power_7 : decode cX4_power 7 = .ok (.iload_n 1, 1) := by decide +kernel
theorem dX4_power_8 : decode cX4_power 8 = .ok (.if_icmp .ge 14, 3) := by decide +kernel
theorem dX4_power_11 : decode cX4_power 11 = .ok (.lload_n 2, 1) := by decide +kernel
theorem dX4_power_12 : decode cX4_power 12 = .ok (.iload_n 0, 1) := by decide +kernel
theorem dX4_power_13 : decode cX4_power 13 = .ok (.i2l, 1) := by decide +kernel
theorem dX4_power_14 : decode cX4_power 14 = .ok (.lmul, 1) := by decide +kernel
theorem dX4_power_15 : decode cX4_power 15 = .ok (.lstore_n 2, 1) := by decide +kernel
theorem dX4_power_16 : decode cX4_power 16 = .ok (.iinc 4 1, 3) := by decide +kernel
theorem dX4_power_19 : decode cX4_power 19 = .ok (.goto (-14), 3) := by decide +kernel
theorem dX4_power_22 : decode cX4_power 22 = .ok (.lload_n 2, 1) := by decide +kernel
theorem dX4_power_23 : decode cX4_power 23 = .ok (.lreturn, 1) := by decide +kernel
end
section
theorem dX5_init_0 : decode cX5_init 0 = .ok (.aload_n 0, 1) := by decide +kernel
theorem dX5_init_1 : decode cX5_init 1 = .ok (.invokespecial 1, 3) := by decide +kernel
theorem dX5_init_4 : decode cX5_init 4 = .ok (.aload_n 0, 1) := by decide +kernel
theorem dX5_init_5 : decode cX5_init 5 = .ok (.bipush 63, 2) := by decide +kernel
theorem dX5_init_7 : decode cX5_init 7 = .ok (.newarray .int, 2) := by decide +kernel
theorem dX5_init_9 : decode cX5_init 9 = .ok (.putfield 7, 3) := by decide +kernel
theorem dX5_init_12 : decode cX5_init 12 = .ok (.aload_n 0, 1) := by decide +kernel
theorem dX5_init_13 : decode cX5_init 13 = .ok (.bipush 63, 2) := by decide +kernel
theorem dX5_init_15 : decode cX5_init 15 = .ok (.newarray .int, 2) := by decide +kernel
theorem dX5_init_17 : decode cX5_init 17 = .ok (.putfield 13, 3) := by decide +kernel
theorem dX5_init_20 : decode cX5_init 20 = .ok (.aload_n 0, 1) := by decide +kernel
theorem dX5_init_21 : decode cX5_init 21 = .ok (.bipush 63, 2) := by decide +kernel
theorem dX5_init_23 : decode cX5_init 23 = .ok (.newarray .int, 2) := by decide +kernel
theorem dX5_init_25 : decode cX5_init 25 = .ok (.putfield 16, 3) := by decide +kernel
theorem dX5_init_28 : decode cX5_init 28 = .ok (.aload_n 0, 1) := by decide +kernel
theorem dX5_init_29 : decode cX5_init 29 = .ok (.bipush 63, 2) := by decide +kernel
theorem dX5_init_31 : decode cX5_init 31 = .ok (.newarray .int, 2) := by decide +kernel
theorem dX5_init_33 : decode cX5_init 33 = .ok (.putfield 19, 3) := by decide +kernel
theorem dX5_init_36 : decode cX5_init 36 = .ok (.aload_n 0, 1) := by decide +kernel
theorem dX5_init_37 : decode cX5_init 37 = .ok (.bipush 7, 2) := by decide +kernel
theorem dX5_init_39 : decode cX5_init 39 = .ok (.newarray .int, 2) := by decide +kernel
theorem dX5_init_41 : decode cX5_init 41 = .ok (.putfield 22, 3) := by decide +kernel
theorem dX5_init_44 : decode cX5_init 44 = .ok (.aload_n 0, 1) := by decide +kernel
theorem dX5_init_45 : decode cX5_init 45 = .ok (.bipush 120, 2) := by decide +kernel
theorem dX5_init_47 : decode cX5_init 47 = .ok (.newarray .byte, 2) := by decide +kernel
theorem dX5_init_49 : decode cX5_init 49 = .ok (.putfield 25, 3) := by decide +kernel
theorem dX5_init_52 : decode cX5_init 52 = .ok (.aload_n 0, 1) := by decide +kernel
theorem dX5_init_53 : decode cX5_init 53 = .ok (.iconst 4, 1) := by decide +kernel
theorem dX5_init_54 : decode cX5_init 54 = .ok (.newarray .int, 2) := by decide +kernel
theorem dX5_init_56 : decode cX5_init 56 = .ok (.putfield 29, 3) := by decide +kernel
theorem dX5_init_59 : decode cX5_init 59 = .ok (.aload_n 0, 1) := by decide +kernel
theorem dX5_init_60 : decode cX5_init 60 = .ok (.iconst 4, 1) := by decide +kernel
theorem dX5_init_61 : decode cX5_init 61 = .ok (.newarray .int, 2) := by decide +kernel
theorem dX5_init_63 : decode cX5_init 63 = .ok (.putfield 32, 3) := by decide +kernel
theorem dX5_init_66 : decode cX5_init 66 = .ok (.aload_n 0, 1) := by decide +kernel
theorem dX5_init_67 : decode cX5_init 67 = .ok (.sipush 160, 3) := by decide +kernel
theorem dX5_init_70 : decode cX5_init 70 = .ok (.newarray .int, 2) := by decide +kernel
theorem dX5_init_72 : decode cX5_init 72 = .ok (.putfield 35, 3) := by decide +kernel
theorem dX5_init_75 : decode cX5_init 75 = .ok (.aload_n 0, 1) := by decide +kernel
theorem dX5_init_76 : decode cX5_init 76 = .ok (.bipush 40, 2) := by decide +kernel
theorem dX5_init_78 : decode cX5_init 78 = .ok (.newarray .int, 2) := by decide +kernel
theorem dX5_init_80 : decode cX5_init 80 = .ok (.putfield 38, 3) := by decide +kernel
theorem dX5_init_83 : decode cX5_init 83 = .ok (.aload_n 0, 1) := by decide +kernel
theorem dX5_init_84 : decode cX5_init 84 = .ok (.getfield 7, 3) := by decide +kernel
theorem dX5_init_87 : decode cX5_init 87 = .ok (.iconst 2, 1) := by decide +kernel
theorem dX5_init_88 : decode cX5_init 88 = .ok (.iconst 1, 1) := by decide +kernel
theorem dX5_init_89 : decode cX5_init 89 = .ok (.iastore, 1) := by decide +kernel
theorem dX5_init_90 : decode cX5_init 90 = .ok (.aload_n 0, 1) := by decide +kernel
theorem dX5_init_91 : decode cX5_init 91 = .ok (.getfield 7, 3) := by decide +kernel
theorem dX5_init_94 : decode cX5_init 94 = .ok (.iconst 3, 1) := by decide +kernel
theorem dX5_init_95 : decode cX5_init 95 = .ok (.bipush 6, 2) := by decide +kernel
theorem dX5_init_97 : decode cX5_init 97 = .ok (.iastore, 1) := by decide +kernel
theorem dX5_init_98 : decode cX5_init 98 = .ok (.aload_n 0, 1) := by decide +kernel
theorem dX5_init_99 : decode cX5_init 99 = .ok (.getfield 7, 3) := by decide +kernel
theorem dX5_init_102 : decode cX5_init 102 = .ok (.iconst 4, 1) := by decide +kernel
theorem dX5_init_103 : decode cX5_init 103 = .ok (.bipush 11, 2) := by decide +kernel
theorem dX5_init_105 : decode cX5_init 105 = .ok (.iastore, 1) := by decide +kernel
theorem dX5_init_106 : decode cX5_init 106 = .ok (.aload_n 0, 1) := by decide +kernel
theorem dX5_init_107 : decode cX5_init 107 = .ok (.getfield 7, 3) := by decide +kernel
theorem dX5_init_110 : decode cX5_init 110 = .ok (.iconst 5, 1) := by decide +kernel
theorem dX5_init_111 : decode cX5_init 111 = .ok (.iconst 1, 1) := by decide +kernel
theorem dX5_init_112 : decode cX5_init 112 = .ok (.iastore, 1) := by decide +kernel
theorem dX5_init_113 : decode cX5_init 113 = .ok (.aload_n 0, 1) := by decide +kernel
theorem dX5_init_114 : decode cX5_init 114 = .ok (.getfield 7, 3) := by decide +kernel
theorem dX5_init_117 : decode cX5_init 117 = .ok (.bipush 6, 2) := by decide +kernel
theorem dX5_init_119 : decode cX5_init 119 = .ok (.iconst 4, 1) := by decide +kernel
theorem dX5_init_120 : decode cX5_init 120 = .ok (.iastore, 1) := by decide +kernel
theorem dX5_init_121 : decode cX5_init 121 = .ok (.return_, 1) := by decide +kernel
theorem dX5_finds_0 : decode cX5_finds 0 = .ok (.aload_n 0, 1) := by decide +kernel
theorem dX5_finds_1 : decode cX5_finds 1 = .ok (.getfield 22, 3) := by decide +kernel
theorem dX5_finds_4 : decode cX5_finds 4 = .ok (.iload_n 1, 1) := by decide +kernel
theorem dX5_finds_5 : decode cX5_finds 5 = .ok (.dup2, 1) := by decide +kernel
theorem dX5_finds_6 : decode cX5_finds 6 = .ok (.iaload, 1) := by decide +kernel
theorem dX5_finds_7 : decode cX5_finds 7 = .ok (.iconst 1, 1) := by decide +kernel
theorem dX5_finds_8 : decode cX5_finds 8 = .ok (.iadd, 1) := by decide +kernel
theorem dX5_finds_9 : decode cX5_finds 9 = .ok (.iastore, 1) := by decide +kernel
theorem dX5_finds_10 : decode cX5_finds 10 = .ok (.ldc 41, 2) := by decide +kernel
theorem dX5_finds_12 : decode cX5_finds 12 = .ok (.iload_n 1, 1) := by decide +kernel
theorem dX5_finds_13 : decode cX5_finds 13 = .ok (.isub, 1) := by decide +kernel
theorem dX5_finds_14 : decode cX5_finds 14 = .ok (.ireturn, 1) := by decide +kernel
theorem dX5_in_0 : decode cX5_in 0 = .ok (.lload_n 0, 1) := by decide +kernel
theorem dX5_in_1 : decode cX5_in 1 = .ok (.lload_n 2, 1) := by decide +kernel
theorem dX5_in_2 : decode cX5_in 2 = .ok (.lcmp, 1) := by decide +kernel
theorem dX5_in_3 : decode cX5_in 3 = .ok (.ifCond .lt 14, 3) := by decide +kernel
theorem dX5_in_6 : decode cX5_in 6 = .ok (.lload_n 0, 1) := by decide +kernel
theorem dX5_in_7 : decode cX5_in 7 = .ok (.lload 4, 2) := by decide +kernel
theorem dX5_in_9 : decode cX5_in 9 = .ok (.lcmp, 1) := by decide +kernel
theorem dX5_in_10 : decode cX5_in 10 = .ok (.ifCond .gt 7, 3) := by decide +kernel
theorem dX5_in_13 : decode cX5_in 13 = .ok (.iconst 1, 1) := by decide +kernel
theorem dX5_in_14 : decode cX5_in 14 = .ok (.goto 4, 3) := by decide +kernel
theorem dX5_in_17 : decode cX5_in 17 = .ok (.iconst 0, 1) := by decide +kernel
theorem dX5_in_18 : decode cX5_in 18 = .ok (.ireturn, 1) := by decide +kernel
theorem dX5_held_0 : decode cX5_held 0 = .ok (.iload_n 0, 1) := by decide +kernel
theorem dX5_held_1 : decode cX5_held 1 = .ok (.iload_n 1, 1) := by decide +kernel
theorem dX5_held_2 : decode cX5_held 2 = .ok (.if_icmp .ge 7, 3) := by decide +kernel
theorem dX5_held_5 : decode cX5_held 5 = .ok (.iload_n 1, 1) := by decide +kernel
theorem dX5_held_6 : decode cX5_held 6 = .ok (.goto 13, 3) := by decide +kernel
theorem dX5_held_9 : decode cX5_held 9 = .ok (.iload_n 0, 1) := by decide +kernel
theorem dX5_held_10 : decode cX5_held 10 = .ok (.iload_n 2, 1) := by decide +kernel
theorem dX5_held_11 : decode cX5_held 11 = .ok (.if_icmp .le 7, 3) := by decide +kernel
theorem dX5_held_14 : decode cX5_held 14 = .ok (.iload_n 2, 1) := by decide +kernel
theorem dX5_held_15 : decode cX5_held 15 = .ok (.goto 4, 3) := by decide +kernel
theorem dX5_held_18 : decode cX5_held 18 = .ok (.iload_n 0, 1) := by decide +kernel
theorem dX5_held_19 : decode cX5_held 19 = .ok (.ireturn, 1) := by decide +kernel
theorem dX5_copies_0 : decode cX5_copies 0 = .ok (.iconst 0, 1) := by decide +kernel
theorem dX5_copies_1 : decode cX5_copies 1 = .ok (.istore_n 2, 1) := by decide +kernel
theorem dX5_copies_2 : decode cX5_copies 2 = .ok (.iload_n 2, 1) := by decide +kernel
theorem dX5_copies_3 : decode cX5_copies 3 = .ok (.bipush 63, 2) := by decide +kernel
theorem dX5_copies_5 : decode cX5_copies 5 = .ok (.if_icmp .ge 15, 3) := by decide +kernel
theorem dX5_copies_8 : decode cX5_copies 8 = .ok (.aload_n 1, 1) := by decide +kernel
theorem dX5_copies_9 : decode cX5_copies 9 = .ok (.iload_n 2, 1) := by decide +kernel
theorem dX5_copies_10 : decode cX5_copies 10 = .ok (.aload_n 0, 1) := by decide +kernel
theorem dX5_copies_11 : decode cX5_copies 11 = .ok (.iload_n 2, 1) := by decide +kernel
theorem dX5_copies_12 : decode cX5_copies 12 = .ok (.iaload, 1) := by decide +kernel
theorem dX5_copies_13 : decode cX5_copies 13 = .ok (.iastore, 1) := by decide +kernel
theorem dX5_copies_14 : decode cX5_copies 14 = .ok (.iinc 2 1, 3) := by decide +kernel
theorem dX5_copies_17 : decode cX5_copies 17 = .ok (.goto (-15), 3) := by decide +kernel
theorem dX5_copies_20 : decode cX5_copies 20 = .ok (.return_, 1) := by decide +kernel
theorem dX5_isResident_0 : decode cX5_isResident 0 = .ok (.iload_n 1, 1) := by decide +kernel
theorem dX5_isResident_1 : decode cX5_isResident 1 = .ok (.i2l, 1) := by decide +kernel
theorem dX5_isResident_2 : decode cX5_isResident 2 = .ok (.lconst 0, 1) := by decide +kernel
theorem dX5_isResident_3 : decode cX5_isResident 3 = .ok (.aload_n 0, 1) := by decide +kernel
theorem dX5_isResident_4 : decode cX5_isResident 4 = .ok (.getfield 7, 3) := by decide +kernel
theorem dX5_isResident_7 : decode cX5_isResident 7 = .ok (.iconst 0, 1) := by decide +kernel
theorem dX5_isResident_8 : decode cX5_isResident 8 = .ok (.iaload, 1) := by decide +kernel
theorem dX5_isResident_9 : decode cX5_isResident 9 = .ok (.iconst 1, 1) := by decide +kernel
theorem dX5_isResident_10 : decode cX5_isResident 10 = .ok (.isub, 1) := by decide +kernel
theorem dX5_isResident_11 : decode cX5_isResident 11 = .ok (.i2l, 1) := by decide +kernel
theorem dX5_isResident_12 : decode cX5_isResident 12 = .ok (.invokestatic 42, 3) := by decide +kernel
theorem dX5_isResident_15 : decode cX5_isResident 15 = .ok (.ireturn, 1) := by decide +kernel
theorem dX5_its_0 : decode cX5_its 0 = .ok (.aload_n 0, 1) := by decide +kernel
theorem dX5_its_1 : decode cX5_its 1 = .ok (.getfield 7, 3) := by decide +kernel
theorem dX5_its_4 : decode cX5_its 4 = .ok (.bipush 13, 2) := by decide +kernel
theorem dX5_its_6 : decode cX5_its 6 = .ok (.bipush 8, 2) := by decide +kernel
theorem dX5_its_8 : decode cX5_its 8 = .ok (.iload_n 2, 1) := by decide +kernel
theorem dX5_its_9 : decode cX5_its 9 = .ok (.imul, 1) := by decide +kernel
theorem dX5_its_10 : decode cX5_its 10 = .ok (.iadd, 1) := by decide +kernel
theorem dX5_its_11 : decode cX5_its 11 = .ok (.iload_n 1, 1) := by decide +kernel
theorem dX5_its_12 : decode cX5_its 12 = .ok (.iadd, 1) := by decide +kernel
theorem dX5_its_13 : decode cX5_its 13 = .ok (.iaload, 1) := by decide +kernel
theorem dX5_its_14 : decode cX5_its 14 = .ok (.ireturn, 1) := by decide +kernel
theorem dX5_sets_0 : decode cX5_sets 0 = .ok (.aload_n 0, 1) := by decide +kernel
theorem dX5_sets_1 : decode cX5_sets 1 = .ok (.getfield 7, 3) := by decide +kernel
theorem dX5_sets_4 : decode cX5_sets 4 = .ok (.bipush 13, 2) := by decide +kernel
theorem dX5_sets_6 : decode cX5_sets 6 = .ok (.bipush 8, 2) := by decide +kernel
theorem dX5_sets_8 : decode cX5_sets 8 = .ok (.iload_n 2, 1) := by decide +kernel
theorem dX5_sets_9 : decode cX5_sets 9 = .ok (.imul, 1) := by decide +kernel
theorem dX5_sets_10 : decode cX5_sets 10 = .ok (.iadd, 1) := by decide +kernel
theorem dX5_sets_11 : decode cX5_sets 11 = .ok (.iload_n 1, 1) := by decide +kernel
theorem dX5_sets_12 : decode cX5_sets 12 = .ok (.iadd, 1) := by decide +kernel
theorem dX5_sets_13 : decode cX5_sets 13 = .ok (.iload_n 3, 1) := by decide +kernel
theorem dX5_sets_14 : decode cX5_sets 14 = .ok (.iastore, 1) := by decide +kernel
theorem dX5_sets_15 : decode cX5_sets 15 = .ok (.return_, 1) := by decide +kernel
theorem dX5_becomes_0 : decode cX5_becomes 0 = .ok (.aload_n 0, 1) := by decide +kernel
theorem dX5_becomes_1 : decode cX5_becomes 1 = .ok (.getfield 7, 3) := by decide +kernel
theorem dX5_becomes_4 : decode cX5_becomes 4 = .ok (.iload_n 1, 1) := by decide +kernel
theorem dX5_becomes_5 : decode cX5_becomes 5 = .ok (.iaload, 1) := by decide +kernel
theorem dX5_becomes_6 : decode cX5_becomes 6 = .ok (.istore_n 3, 1) := by decide +kernel
theorem dX5_becomes_7 : decode cX5_becomes 7 = .ok (.aload_n 0, 1) := by decide +kernel
theorem dX5_becomes_8 : decode cX5_becomes 8 = .ok (.getfield 7, 3) := by decide +kernel
theorem dX5_becomes_11 : decode cX5_becomes 11 = .ok (.iload_n 1, 1) := by decide +kernel
theorem dX5_becomes_12 : decode cX5_becomes 12 = .ok (.iload_n 2, 1) := by decide +kernel
theorem dX5_becomes_13 : decode cX5_becomes 13 = .ok (.iastore, 1) := by decide +kernel
theorem dX5_becomes_14 : decode cX5_becomes 14 = .ok (.iload_n 3, 1) := by decide +kernel
theorem dX5_becomes_15 : decode cX5_becomes 15 = .ok (.ireturn, 1) := by decide +kernel
theorem dX5_ones_0 : decode cX5_ones 0 = .ok (.iconst 0, 1) := by decide +kernel
theorem dX5_ones_1 : decode cX5_ones 1 = .ok (.istore_n 1, 1) := by decide +kernel
theorem dX5_ones_2 : decode cX5_ones 2 = .ok (.iconst 0, 1) := by decide +kernel
theorem dX5_ones_3 : decode cX5_ones 3 = .ok (.istore_n 2, 1) := by decide +kernel
theorem dX5_ones_4 : decode cX5_ones 4 = .ok (.iload_n 2, 1) := by decide +kernel
theorem dX5_ones_5 : decode cX5_ones 5 = .ok (.bipush 8, 2) := by decide +kernel
theorem dX5_ones_7 : decode cX5_ones 7 = .ok (.if_icmp .ge 17, 3) := by decide +kernel
theorem dX5_ones_10 : decode cX5_ones 10 = .ok (.iload_n 1, 1) := by decide +kernel
theorem dX5_ones_11 : decode cX5_ones 11 = .ok (.iload_n 0, 1) := by decide +kernel
theorem dX5_ones_12 : decode cX5_ones 12 = .ok (.iload_n 2, 1) := by decide +kernel
theorem dX5_ones_13 : decode cX5_ones 13 = .ok (.ishr, 1) := by decide +kernel
theorem dX5_ones_14 : decode cX5_ones 14 = .ok (.iconst 1, 1) := by decide +kernel
theorem dX5_ones_15 : decode cX5_ones 15 = .ok (.iand, 1) := by decide +kernel
theorem dX5_ones_16 : decode cX5_ones 16 = .ok (.iadd, 1) := by decide +kernel
theorem dX5_ones_17 : decode cX5_ones 17 = .ok (.istore_n 1, 1) := by decide +kernel
theorem dX5_ones_18 : decode cX5_ones 18 = .ok (.iinc 2 1, 3) := by decide +kernel
theorem dX5_ones_21 : decode cX5_ones 21 = .ok (.goto (-17), 3) := by decide +kernel
theorem dX5_ones_24 : decode cX5_ones 24 = .ok (.iload_n 1, 1) := by decide +kernel
theorem dX5_ones_25 : decode cX5_ones 25 = .ok (.ireturn, 1) := by decide +kernel
theorem dX5_seats_0 : decode cX5_seats 0 = .ok (.aload_n 0, 1) := by decide +kernel
theorem dX5_seats_1 : decode cX5_seats 1 = .ok (.iload_n 1, 1) := by decide +kernel
theorem dX5_seats_2 : decode cX5_seats 2 = .ok (.iconst 0, 1) := by decide +kernel
theorem dX5_seats_3 : decode cX5_seats 3 = .ok (.invokevirtual 46, 3) := by decide +kernel
theorem dX5_seats_6 : decode cX5_seats 6 = .ok (.tableswitch 44 1 6 #[38, 42, 42, 42, 44, 40], 38) := by decide +kernel
theorem dX5_seats_44 : decode cX5_seats 44 = .ok (.iconst 3, 1) := by decide +kernel
theorem dX5_seats_45 : decode cX5_seats 45 = .ok (.ireturn, 1) := by decide +kernel
theorem dX5_seats_46 : decode cX5_seats 46 = .ok (.iconst 4, 1) := by decide +kernel
theorem dX5_seats_47 : decode cX5_seats 47 = .ok (.ireturn, 1) := by decide +kernel
theorem dX5_seats_48 : decode cX5_seats 48 = .ok (.iconst 1, 1) := by decide +kernel
theorem dX5_seats_49 : decode cX5_seats 49 = .ok (.ireturn, 1) := by decide +kernel
theorem dX5_seats_50 : decode cX5_seats 50 = .ok (.iconst 2, 1) := by decide +kernel
theorem dX5_seats_51 : decode cX5_seats 51 = .ok (.ireturn, 1) := by decide +kernel
theorem dX5_gains_0 : decode cX5_gains 0 = .ok (.iconst 2, 1) := by decide +kernel
theorem dX5_gains_1 : decode cX5_gains 1 = .ok (.aload_n 0, 1) := by decide +kernel
theorem dX5_gains_2 : decode cX5_gains 2 = .ok (.getfield 7, 3) := by decide +kernel
theorem dX5_gains_5 : decode cX5_gains 5 = .ok (.bipush 6, 2) := by decide +kernel
theorem dX5_gains_7 : decode cX5_gains 7 = .ok (.iaload, 1) := by decide +kernel
theorem dX5_gains_8 : decode cX5_gains 8 = .ok (.imul, 1) := by decide +kernel
theorem dX5_gains_9 : decode cX5_gains 9 = .ok (.iconst 0, 1) := by decide +kernel
theorem dX5_gains_10 : decode cX5_gains 10 = .ok (.bipush 12, 2) := by decide +kernel
theorem dX5_gains_12 : decode cX5_gains 12 = .ok (.invokestatic 50, 3) := by decide +kernel
theorem dX5_gains_15 : decode cX5_gains 15 = .ok (.istore_n 2, 1) := by decide +kernel
theorem dX5_gains_16 : decode cX5_gains 16 = .ok (.aload_n 0, 1) := by decide +kernel
theorem dX5_gains_17 : decode cX5_gains 17 = .ok (.iload_n 1, 1) := by decide +kernel
theorem dX5_gains_18 : decode cX5_gains 18 = .ok (.iconst 0, 1) := by decide +kernel
theorem dX5_gains_19 : decode cX5_gains 19 = .ok (.invokevirtual 46, 3) := by decide +kernel
theorem dX5_gains_22 : decode cX5_gains 22 = .ok (.tableswitch 78 1 6 #[38, 48, 52, 52, 58, 38], 38) := by decide +kernel
theorem dX5_gains_60 : decode cX5_gains 60 = .ok (.iload_n 2, 1) := by decide +kernel
theorem dX5_gains_61 : decode cX5_gains 61 = .ok (.aload_n 0, 1) := by decide +kernel
theorem dX5_gains_62 : decode cX5_gains 62 = .ok (.getfield 7, 3) := by decide +kernel
theorem dX5_gains_65 : decode cX5_gains 65 = .ok (.bipush 6, 2) := by decide +kernel
theorem dX5_gains_67 : decode cX5_gains 67 = .ok (.iaload, 1) := by decide +kernel
theorem dX5_gains_68 : decode cX5_gains 68 = .ok (.iadd, 1) := by decide +kernel
theorem dX5_gains_69 : decode cX5_gains 69 = .ok (.ireturn, 1) := by decide +kernel
theorem dX5_gains_70 : decode cX5_gains 70 = .ok (.iload_n 2, 1) := by decide +kernel
theorem dX5_gains_71 : decode cX5_gains 71 = .ok (.iconst 2, 1) := by decide +kernel
theorem dX5_gains_72 : decode cX5_gains 72 = .ok (.idiv, 1) := by decide +kernel
theorem dX5_gains_73 : decode cX5_gains 73 = .ok (.ireturn, 1) := by decide +kernel
theorem dX5_gains_74 : decode cX5_gains 74 = .ok (.iload_n 2, 1) := by decide +kernel
theorem dX5_gains_75 : decode cX5_gains 75 = .ok (.iconst 2, 1) := by decide +kernel
theorem dX5_gains_76 : decode cX5_gains 76 = .ok (.idiv, 1) := by decide +kernel
theorem dX5_gains_77 : decode cX5_gains 77 = .ok (.iconst 5, 1) := by decide +kernel
theorem dX5_gains_78 : decode cX5_gains 78 = .ok (.iadd, 1) := by decide +kernel
theorem dX5_gains_79 : decode cX5_gains 79 = .ok (.ireturn, 1) := by decide +kernel
theorem dX5_gains_80 : decode cX5_gains 80 = .ok (.aload_n 0, 1) := by decide +kernel
theorem dX5_gains_81 : decode cX5_gains 81 = .ok (.getfield 7, 3) := by decide +kernel
theorem dX5_gains_84 : decode cX5_gains 84 = .ok (.bipush 6, 2) := by decide +kernel
theorem dX5_gains_86 : decode cX5_gains 86 = .ok (.iaload, 1) := by decide +kernel
theorem dX5_gains_87 : decode cX5_gains 87 = .ok (.bipush 6, 2) := by decide +kernel
theorem dX5_gains_89 : decode cX5_gains 89 = .ok (.if_icmp .le 9, 3) := by decide +kernel
theorem dX5_gains_92 : decode cX5_gains 92 = .ok (.iload_n 2, 1) := by decide +kernel
theorem dX5_gains_93 : decode cX5_gains 93 = .ok (.iconst 2, 1) := by decide +kernel
theorem dX5_gains_94 : decode cX5_gains 94 = .ok (.isub, 1) := by decide +kernel
theorem dX5_gains_95 : decode cX5_gains 95 = .ok (.goto 4, 3) := by decide +kernel
theorem dX5_gains_98 : decode cX5_gains 98 = .ok (.iload_n 2, 1) := by decide +kernel
theorem dX5_gains_99 : decode cX5_gains 99 = .ok (.ireturn, 1) := by decide +kernel
theorem dX5_gains_100 : decode cX5_gains 100 = .ok (.iload_n 2, 1) := by decide +kernel
theorem dX5_gains_101 : decode cX5_gains 101 = .ok (.ireturn, 1) := by decide +kernel
theorem dX5_loses_0 : decode cX5_loses 0 = .ok (.aload_n 0, 1) := by decide +kernel
theorem dX5_loses_1 : decode cX5_loses 1 = .ok (.iload_n 1, 1) := by decide +kernel
theorem dX5_loses_2 : decode cX5_loses 2 = .ok (.iconst 0, 1) := by decide +kernel
theorem dX5_loses_3 : decode cX5_loses 3 = .ok (.invokevirtual 46, 3) := by decide +kernel
theorem dX5_loses_6 : decode cX5_loses 6 = .ok (.tableswitch 64 1 6 #[38, 40, 42, 58, 60, 38], 38) := by decide +kernel
theorem dX5_loses_44 : decode cX5_loses 44 = .ok (.iconst 2, 1) := by decide +kernel
theorem dX5_loses_45 : decode cX5_loses 45 = .ok (.ireturn, 1) := by decide +kernel
theorem dX5_loses_46 : decode cX5_loses 46 = .ok (.iconst 1, 1) := by decide +kernel
theorem dX5_loses_47 : decode cX5_loses 47 = .ok (.ireturn, 1) := by decide +kernel
theorem dX5_loses_48 : decode cX5_loses 48 = .ok (.aload_n 0, 1) := by decide +kernel
theorem dX5_loses_49 : decode cX5_loses 49 = .ok (.iload_n 1, 1) := by decide +kernel
theorem dX5_loses_50 : decode cX5_loses 50 = .ok (.iconst 3, 1) := by decide +kernel
theorem dX5_loses_51 : decode cX5_loses 51 = .ok (.invokevirtual 46, 3) := by decide +kernel
theorem dX5_loses_54 : decode cX5_loses 54 = .ok (.iconst 4, 1) := by decide +kernel
theorem dX5_loses_55 : decode cX5_loses 55 = .ok (.if_icmp .lt 7, 3) := by decide +kernel
theorem dX5_loses_58 : decode cX5_loses 58 = .ok (.iconst 2, 1) := by decide +kernel
theorem dX5_loses_59 : decode cX5_loses 59 = .ok (.goto 4, 3) := by decide +kernel
theorem dX5_loses_62 : decode cX5_loses 62 = .ok (.iconst 1, 1) := by decide +kernel
theorem dX5_loses_63 : decode cX5_loses 63 = .ok (.ireturn, 1) := by decide +kernel
theorem dX5_loses_64 : decode cX5_loses 64 = .ok (.iconst 0, 1) := by decide +kernel
theorem dX5_loses_65 : decode cX5_loses 65 = .ok (.ireturn, 1) := by decide +kernel
theorem dX5_loses_66 : decode cX5_loses 66 = .ok (.iconst 3, 1) := by decide +kernel
theorem dX5_loses_67 : decode cX5_loses 67 = .ok (.iload_n 2, 1) := by decide +kernel
theorem dX5_loses_68 : decode cX5_loses 68 = .ok (.iadd, 1) := by decide +kernel
theorem dX5_loses_69 : decode cX5_loses 69 = .ok (.ireturn, 1) := by decide +kernel
theorem dX5_loses_70 : decode cX5_loses 70 = .ok (.iconst 3, 1) := by decide +kernel
theorem dX5_loses_71 : decode cX5_loses 71 = .ok (.ireturn, 1) := by decide +kernel
theorem dX5_shares_0 : decode cX5_shares 0 = .ok (.aload_n 0, 1) := by decide +kernel
theorem dX5_shares_1 : decode cX5_shares 1 = .ok (.iload_n 1, 1) := by decide +kernel
theorem dX5_shares_2 : decode cX5_shares 2 = .ok (.iconst 0, 1) := by decide +kernel
theorem dX5_shares_3 : decode cX5_shares 3 = .ok (.invokevirtual 46, 3) := by decide +kernel
theorem dX5_shares_6 : decode cX5_shares 6 = .ok (.istore_n 2, 1) := by decide +kernel
theorem dX5_shares_7 : decode cX5_shares 7 = .ok (.iload_n 2, 1) := by decide +kernel
theorem dX5_shares_8 : decode cX5_shares 8 = .ok (.bipush 6, 2) := by decide +kernel
theorem dX5_shares_10 : decode cX5_shares 10 = .ok (.if_icmp .eq 24, 3) := by decide +kernel
theorem dX5_shares_13 : decode cX5_shares 13 = .ok (.iload_n 2, 1) := by decide +kernel
theorem dX5_shares_14 : decode cX5_shares 14 = .ok (.iconst 3, 1) := by decide +kernel
theorem dX5_shares_15 : decode cX5_shares 15 = .ok (.if_icmp .eq 19, 3) := by decide +kernel
theorem dX5_shares_18 : decode cX5_shares 18 = .ok (.iload_n 2, 1) := by decide +kernel
theorem dX5_shares_19 : decode cX5_shares 19 = .ok (.iconst 4, 1) := by decide +kernel
theorem dX5_shares_20 : decode cX5_shares 20 = .ok (.if_icmp .eq 18, 3) := by decide +kernel
theorem dX5_shares_23 : decode cX5_shares 23 = .ok (.aload_n 0, 1) := by decide +kernel
theorem dX5_shares_24 : decode cX5_shares 24 = .ok (.iload_n 1, 1) := by decide +kernel
theorem dX5_shares_25 : decode cX5_shares 25 = .ok (.iconst 1, 1) := by decide +kernel
theorem dX5_shares_26 : decode cX5_shares 26 = .ok (.invokevirtual 46, 3) := by decide +kernel
theorem dX5_shares_29 : decode cX5_shares 29 = .ok (.bipush 70, 2) := by decide +kernel
theorem dX5_shares_31 : decode cX5_shares 31 = .ok (.if_icmp .lt 7, 3) := by decide +kernel
theorem dX5_shares_34 : decode cX5_shares 34 = .ok (.iconst 1, 1) := by decide +kernel
theorem dX5_shares_35 : decode cX5_shares 35 = .ok (.goto 4, 3) := by decide +kernel
theorem dX5_shares_38 : decode cX5_shares 38 = .ok (.iconst 0, 1) := by decide +kernel
theorem dX5_shares_39 : decode cX5_shares 39 = .ok (.ireturn, 1) := by decide +kernel
theorem dX5_visitedOf_0 : decode cX5_visitedOf 0 = .ok (.aload_n 0, 1) := by decide +kernel
theorem dX5_visitedOf_1 : decode cX5_visitedOf 1 = .ok (.getfield 7, 3) := by decide +kernel
theorem dX5_visitedOf_4 : decode cX5_visitedOf 4 = .ok (.iconst 3, 1) := by decide +kernel
theorem dX5_visitedOf_5 : decode cX5_visitedOf 5 = .ok (.iaload, 1) := by decide +kernel
theorem dX5_visitedOf_6 : decode cX5_visitedOf 6 = .ok (.istore_n 2, 1) := by decide +kernel
theorem dX5_visitedOf_7 : decode cX5_visitedOf 7 = .ok (.iconst 0, 1) := by decide +kernel
theorem dX5_visitedOf_8 : decode cX5_visitedOf 8 = .ok (.istore_n 3, 1) := by decide +kernel
theorem dX5_visitedOf_9 : decode cX5_visitedOf 9 = .ok (.iconst 0, 1) := by decide +kernel
theorem dX5_visitedOf_10 : decode cX5_visitedOf 10 = .ok (.istore 4, 2) := by decide +kernel
theorem dX5_visitedOf_12 : decode cX5_visitedOf 12 = .ok (.iload 4, 2) := by decide +kernel
theorem dX5_visitedOf_14 : decode cX5_visitedOf 14 = .ok (.aload_n 0, 1) := by decide +kernel
theorem dX5_visitedOf_15 : decode cX5_visitedOf 15 = .ok (.getfield 7, 3) := by decide +kernel
theorem dX5_visitedOf_18 : decode cX5_visitedOf 18 = .ok (.iconst 0, 1) := by decide +kernel
theorem dX5_visitedOf_19 : decode cX5_visitedOf 19 = .ok (.iaload, 1) := by decide +kernel
theorem dX5_visitedOf_20 : decode cX5_visitedOf 20 = .ok (.if_icmp .ge 45, 3) := by decide +kernel
theorem dX5_visitedOf_23 : decode cX5_visitedOf 23 = .ok (.iload_n 1, 1) := by decide +kernel
theorem dX5_visitedOf_24 : decode cX5_visitedOf 24 = .ok (.iload 4, 2) := by decide +kernel
theorem dX5_visitedOf_26 : decode cX5_visitedOf 26 = .ok (.ishr, 1) := by decide +kernel
theorem dX5_visitedOf_27 : decode cX5_visitedOf 27 = .ok (.iconst 1, 1) := by decide +kernel
theorem dX5_visitedOf_28 : decode cX5_visitedOf 28 = .ok (.iand, 1) := by decide +kernel
theorem dX5_visitedOf_29 : decode cX5_visitedOf 29 = .ok (.iconst 1, 1) := by decide +kernel
theorem dX5_visitedOf_30 : decode cX5_visitedOf 30 = .ok (.if_icmp .ne 29, 3) := by decide +kernel
theorem dX5_visitedOf_33 : decode cX5_visitedOf 33 = .ok (.aload_n 0, 1) := by decide +kernel
theorem dX5_visitedOf_34 : decode cX5_visitedOf 34 = .ok (.iload 4, 2) := by decide +kernel
theorem dX5_visitedOf_36 : decode cX5_visitedOf 36 = .ok (.invokevirtual 54, 3) := by decide +kernel
theorem dX5_visitedOf_39 : decode cX5_visitedOf 39 = .ok (.iload_n 2, 1) := by decide +kernel
theorem dX5_visitedOf_40 : decode cX5_visitedOf 40 = .ok (.if_icmp .gt 19, 3) := by decide +kernel
theorem dX5_visitedOf_43 : decode cX5_visitedOf 43 = .ok (.iload_n 2, 1) := by decide +kernel
theorem dX5_visitedOf_44 : decode cX5_visitedOf 44 = .ok (.aload_n 0, 1) := by decide +kernel
theorem dX5_visitedOf_45 : decode cX5_visitedOf 45 = .ok (.iload 4, 2) := by decide +kernel
theorem dX5_visitedOf_47 : decode cX5_visitedOf 47 = .ok (.invokevirtual 54, 3) := by decide +kernel
theorem dX5_visitedOf_50 : decode cX5_visitedOf 50 = .ok (.isub, 1) := by decide +kernel
theorem dX5_visitedOf_51 : decode cX5_visitedOf 51 = .ok (.istore_n 2, 1) := by decide +kernel
theorem dX5_visitedOf_52 : decode cX5_visitedOf 52 = .ok (.iload_n 3, 1) := by decide +kernel
theorem dX5_visitedOf_53 : decode cX5_visitedOf 53 = .ok (.iconst 1, 1) := by decide +kernel
theorem dX5_visitedOf_54 : decode cX5_visitedOf 54 = .ok (.iload 4, 2) := by decide +kernel
theorem dX5_visitedOf_56 : decode cX5_visitedOf 56 = .ok (.ishl, 1) := by decide +kernel
theorem dX5_visitedOf_57 : decode cX5_visitedOf 57 = .ok (.ior, 1) := by decide +kernel
theorem dX5_visitedOf_58 : decode cX5_visitedOf 58 = .ok (.istore_n 3, 1) := by decide +kernel
theorem dX5_visitedOf_59 : decode cX5_visitedOf 59 = .ok (.iinc 4 1, 3) := by decide +kernel
theorem dX5_visitedOf_62 : decode cX5_visitedOf 62 = .ok (.goto (-50), 3) := by decide +kernel
theorem dX5_visitedOf_65 : decode cX5_visitedOf 65 = .ok (.iload_n 3, 1) := by decide +kernel
theorem dX5_visitedOf_66 : decode cX5_visitedOf 66 = .ok (.ireturn, 1) := by decide +kernel
theorem dX5_todays_0 : decode cX5_todays 0 = .ok (.aload_n 0, 1) := by decide +kernel
theorem dX5_todays_1 : decode cX5_todays 1 = .ok (.getfield 7, 3) := by decide +kernel
theorem dX5_todays_4 : decode cX5_todays 4 = .ok (.bipush 7, 2) := by decide +kernel
theorem dX5_todays_6 : decode cX5_todays 6 = .ok (.aload_n 0, 1) := by decide +kernel
theorem dX5_todays_7 : decode cX5_todays 7 = .ok (.getfield 7, 3) := by decide +kernel
theorem dX5_todays_10 : decode cX5_todays 10 = .ok (.iconst 1, 1) := by decide +kernel
theorem dX5_todays_11 : decode cX5_todays 11 = .ok (.iaload, 1) := by decide +kernel
theorem dX5_todays_12 : decode cX5_todays 12 = .ok (.bipush 6, 2) := by decide +kernel
theorem dX5_todays_14 : decode cX5_todays 14 = .ok (.irem, 1) := by decide +kernel
theorem dX5_todays_15 : decode cX5_todays 15 = .ok (.iadd, 1) := by decide +kernel
theorem dX5_todays_16 : decode cX5_todays 16 = .ok (.iaload, 1) := by decide +kernel
theorem dX5_todays_17 : decode cX5_todays 17 = .ok (.ireturn, 1) := by decide +kernel
theorem dX5_sharersOf_0 : decode cX5_sharersOf 0 = .ok (.iconst 0, 1) := by decide +kernel
theorem dX5_sharersOf_1 : decode cX5_sharersOf 1 = .ok (.istore_n 2, 1) := by decide +kernel
theorem dX5_sharersOf_2 : decode cX5_sharersOf 2 = .ok (.iconst 0, 1) := by decide +kernel
theorem dX5_sharersOf_3 : decode cX5_sharersOf 3 = .ok (.istore_n 3, 1) := by decide +kernel
theorem dX5_sharersOf_4 : decode cX5_sharersOf 4 = .ok (.iload_n 3, 1) := by decide +kernel
theorem dX5_sharersOf_5 : decode cX5_sharersOf 5 = .ok (.aload_n 0, 1) := by decide +kernel
theorem dX5_sharersOf_6 : decode cX5_sharersOf 6 = .ok (.getfield 7, 3) := by decide +kernel
theorem dX5_sharersOf_9 : decode cX5_sharersOf 9 = .ok (.iconst 0, 1) := by decide +kernel
theorem dX5_sharersOf_10 : decode cX5_sharersOf 10 = .ok (.iaload, 1) := by decide +kernel
theorem dX5_sharersOf_11 : decode cX5_sharersOf 11 = .ok (.if_icmp .ge 70, 3) := by decide +kernel
theorem dX5_sharersOf_14 : decode cX5_sharersOf 14 = .ok (.aload_n 0, 1) := by decide +kernel
theorem dX5_sharersOf_15 : decode cX5_sharersOf 15 = .ok (.iload_n 3, 1) := by decide +kernel
theorem dX5_sharersOf_16 : decode cX5_sharersOf 16 = .ok (.iconst 2, 1) := by decide +kernel
theorem dX5_sharersOf_17 : decode cX5_sharersOf 17 = .ok (.invokevirtual 46, 3) := by decide +kernel
theorem dX5_sharersOf_20 : decode cX5_sharersOf 20 = .ok (.istore 4, 2) := by decide +kernel
theorem dX5_sharersOf_22 : decode cX5_sharersOf 22 = .ok (.iload_n 1, 1) := by decide +kernel
theorem dX5_sharersOf_23 : decode cX5_sharersOf 23 = .ok (.iload_n 3, 1) := by decide +kernel
theorem dX5_sharersOf_24 : decode cX5_sharersOf 24 = .ok (.ishr, 1) := by decide +kernel
theorem dX5_sharersOf_25 : decode cX5_sharersOf 25 = .ok (.iconst 1, 1) := by decide +kernel
theorem dX5_sharersOf_26 : decode cX5_sharersOf 26 = .ok (.iand, 1) := by decide +kernel
theorem dX5_sharersOf_27 : decode cX5_sharersOf 27 = .ok (.ifCond .ne 30, 3) := by decide +kernel
theorem dX5_sharersOf_30 : decode cX5_sharersOf 30 = .ok (.iload 4, 2) := by decide +kernel
theorem dX5_sharersOf_32 : decode cX5_sharersOf 32 = .ok (.ifCond .lt 25, 3) := by decide +kernel
theorem dX5_sharersOf_35 : decode cX5_sharersOf 35 = .ok (.iload_n 1, 1) := by decide +kernel
theorem dX5_sharersOf_36 : decode cX5_sharersOf 36 = .ok (.iload 4, 2) := by decide +kernel
theorem dX5_sharersOf_38 : decode cX5_sharersOf 38 = .ok (.ishr, 1) := by decide +kernel
theorem dX5_sharersOf_39 : decode cX5_sharersOf 39 = .ok (.iconst 1, 1) := by decide +kernel
theorem dX5_sharersOf_40 : decode cX5_sharersOf 40 = .ok (.iand, 1) := by decide +kernel
theorem dX5_sharersOf_41 : decode cX5_sharersOf 41 = .ok (.iconst 1, 1) := by decide +kernel
theorem dX5_sharersOf_42 : decode cX5_sharersOf 42 = .ok (.if_icmp .ne 15, 3) := by decide +kernel
theorem dX5_sharersOf_45 : decode cX5_sharersOf 45 = .ok (.aload_n 0, 1) := by decide +kernel
theorem dX5_sharersOf_46 : decode cX5_sharersOf 46 = .ok (.iload_n 3, 1) := by decide +kernel
theorem dX5_sharersOf_47 : decode cX5_sharersOf 47 = .ok (.invokevirtual 58, 3) := by decide +kernel
theorem dX5_sharersOf_50 : decode cX5_sharersOf 50 = .ok (.ifCond .eq 7, 3) := by decide +kernel
theorem dX5_sharersOf_53 : decode cX5_sharersOf 53 = .ok (.iconst 1, 1) := by decide +kernel
theorem dX5_sharersOf_54 : decode cX5_sharersOf 54 = .ok (.goto 4, 3) := by decide +kernel
theorem dX5_sharersOf_57 : decode cX5_sharersOf 57 = .ok (.iconst 0, 1) := by decide +kernel
theorem dX5_sharersOf_58 : decode cX5_sharersOf 58 = .ok (.istore 5, 2) := by decide +kernel
theorem dX5_sharersOf_60 : decode cX5_sharersOf 60 = .ok (.iload_n 2, 1) := by decide +kernel
theorem dX5_sharersOf_61 : decode cX5_sharersOf 61 = .ok (.iload 5, 2) := by decide +kernel
theorem dX5_sharersOf_63 : decode cX5_sharersOf 63 = .ok (.ifCond .eq 9, 3) := by decide +kernel
theorem dX5_sharersOf_66 : decode cX5_sharersOf 66 = .ok (.iconst 1, 1) := by decide +kernel
theorem dX5_sharersOf_67 : decode cX5_sharersOf 67 = .ok (.iload_n 3, 1) := by decide +kernel
theorem dX5_sharersOf_68 : decode cX5_sharersOf 68 = .ok (.ishl, 1) := by decide +kernel
theorem dX5_sharersOf_69 : decode cX5_sharersOf 69 = .ok (.goto 4, 3) := by decide +kernel
theorem dX5_sharersOf_72 : decode cX5_sharersOf 72 = .ok (.iconst 0, 1) := by decide +kernel
theorem dX5_sharersOf_73 : decode cX5_sharersOf 73 = .ok (.ior, 1) := by decide +kernel
theorem dX5_sharersOf_74 : decode cX5_sharersOf 74 = .ok (.istore_n 2, 1) := by decide +kernel
theorem dX5_sharersOf_75 : decode cX5_sharersOf 75 = .ok (.iinc 3 1, 3) := by decide +kernel
theorem dX5_sharersOf_78 : decode cX5_sharersOf 78 = .ok (.goto (-74), 3) := by decide +kernel
theorem dX5_sharersOf_81 : decode cX5_sharersOf 81 = .ok (.iload_n 2, 1) := by decide +kernel
theorem dX5_sharersOf_82 : decode cX5_sharersOf 82 = .ok (.ireturn, 1) := by decide +kernel
theorem dX5_longest_0 : decode cX5_longest 0 = .ok (.iconst (-1), 1) := by decide +kernel
theorem dX5_longest_1 : decode cX5_longest 1 = .ok (.istore_n 2, 1) := by decide +kernel
theorem dX5_longest_2 : decode cX5_longest 2 = .ok (.iconst 0, 1) := by decide +kernel
theorem dX5_longest_3 : decode cX5_longest 3 = .ok (.istore_n 3, 1) := by decide +kernel
theorem dX5_longest_4 : decode cX5_longest 4 = .ok (.iload_n 3, 1) := by decide +kernel
theorem dX5_longest_5 : decode cX5_longest 5 = .ok (.aload_n 0, 1) := by decide +kernel
theorem dX5_longest_6 : decode cX5_longest 6 = .ok (.getfield 7, 3) := by decide +kernel
theorem dX5_longest_9 : decode cX5_longest 9 = .ok (.iconst 0, 1) := by decide +kernel
theorem dX5_longest_10 : decode cX5_longest 10 = .ok (.iaload, 1) := by decide +kernel
theorem dX5_longest_11 : decode cX5_longest 11 = .ok (.if_icmp .ge 42, 3) := by decide +kernel
theorem dX5_longest_14 : decode cX5_longest 14 = .ok (.iload_n 1, 1) := by decide +kernel
theorem dX5_longest_15 : decode cX5_longest 15 = .ok (.iload_n 3, 1) := by decide +kernel
theorem dX5_longest_16 : decode cX5_longest 16 = .ok (.ishr, 1) := by decide +kernel
theorem dX5_longest_17 : decode cX5_longest 17 = .ok (.iconst 1, 1) := by decide +kernel
theorem dX5_longest_18 : decode cX5_longest 18 = .ok (.iand, 1) := by decide +kernel
theorem dX5_longest_19 : decode cX5_longest 19 = .ok (.ifCond .ne 28, 3) := by decide +kernel
theorem dX5_longest_22 : decode cX5_longest 22 = .ok (.iload_n 2, 1) := by decide +kernel
theorem dX5_longest_23 : decode cX5_longest 23 = .ok (.ifCond .lt 18, 3) := by decide +kernel
theorem dX5_longest_26 : decode cX5_longest 26 = .ok (.aload_n 0, 1) := by decide +kernel
theorem dX5_longest_27 : decode cX5_longest 27 = .ok (.iload_n 3, 1) := by decide +kernel
theorem dX5_longest_28 : decode cX5_longest 28 = .ok (.iconst 3, 1) := by decide +kernel
theorem dX5_longest_29 : decode cX5_longest 29 = .ok (.invokevirtual 46, 3) := by decide +kernel
theorem dX5_longest_32 : decode cX5_longest 32 = .ok (.aload_n 0, 1) := by decide +kernel
theorem dX5_longest_33 : decode cX5_longest 33 = .ok (.iload_n 2, 1) := by decide +kernel
theorem dX5_longest_34 : decode cX5_longest 34 = .ok (.iconst 3, 1) := by decide +kernel
theorem dX5_longest_35 : decode cX5_longest 35 = .ok (.invokevirtual 46, 3) := by decide +kernel
theorem dX5_longest_38 : decode cX5_longest 38 = .ok (.if_icmp .le 7, 3) := by decide +kernel
theorem dX5_longest_41 : decode cX5_longest 41 = .ok (.iload_n 3, 1) := by decide +kernel
theorem dX5_longest_42 : decode cX5_longest 42 = .ok (.goto 4, 3) := by decide +kernel
theorem dX5_longest_45 : decode cX5_longest 45 = .ok (.iload_n 2, 1) := by decide +kernel
theorem dX5_longest_46 : decode cX5_longest 46 = .ok (.istore_n 2, 1) := by decide +kernel
theorem dX5_longest_47 : decode cX5_longest 47 = .ok (.iinc 3 1, 3) := by decide +kernel
theorem dX5_longest_50 : decode cX5_longest 50 = .ok (.goto (-46), 3) := by decide +kernel
theorem dX5_longest_53 : decode cX5_longest 53 = .ok (.iload_n 2, 1) := by decide +kernel
theorem dX5_longest_54 : decode cX5_longest 54 = .ok (.ireturn, 1) := by decide +kernel
theorem dX5_helpedOf_0 : decode cX5_helpedOf 0 = .ok (.iconst 0, 1) := by decide +kernel
theorem dX5_helpedOf_1 : decode cX5_helpedOf 1 = .ok (.istore_n 2, 1) := by decide +kernel
theorem dX5_helpedOf_2 : decode cX5_helpedOf 2 = .ok (.iconst 0, 1) := by decide +kernel
theorem dX5_helpedOf_3 : decode cX5_helpedOf 3 = .ok (.istore_n 3, 1) := by decide +kernel
theorem dX5_helpedOf_4 : decode cX5_helpedOf 4 = .ok (.iload_n 3, 1) := by decide +kernel
theorem dX5_helpedOf_5 : decode cX5_helpedOf 5 = .ok (.aload_n 0, 1) := by decide +kernel
theorem dX5_helpedOf_6 : decode cX5_helpedOf 6 = .ok (.getfield 7, 3) := by decide +kernel
theorem dX5_helpedOf_9 : decode cX5_helpedOf 9 = .ok (.iconst 5, 1) := by decide +kernel
theorem dX5_helpedOf_10 : decode cX5_helpedOf 10 = .ok (.iaload, 1) := by decide +kernel
theorem dX5_helpedOf_11 : decode cX5_helpedOf 11 = .ok (.if_icmp .ge 34, 3) := by decide +kernel
theorem dX5_helpedOf_14 : decode cX5_helpedOf 14 = .ok (.aload_n 0, 1) := by decide +kernel
theorem dX5_helpedOf_15 : decode cX5_helpedOf 15 = .ok (.iload_n 1, 1) := by decide +kernel
theorem dX5_helpedOf_16 : decode cX5_helpedOf 16 = .ok (.iload_n 2, 1) := by decide +kernel
theorem dX5_helpedOf_17 : decode cX5_helpedOf 17 = .ok (.ior, 1) := by decide +kernel
theorem dX5_helpedOf_18 : decode cX5_helpedOf 18 = .ok (.invokevirtual 62, 3) := by decide +kernel
theorem dX5_helpedOf_21 : decode cX5_helpedOf 21 = .ok (.istore 4, 2) := by decide +kernel
theorem dX5_helpedOf_23 : decode cX5_helpedOf 23 = .ok (.iload_n 2, 1) := by decide +kernel
theorem dX5_helpedOf_24 : decode cX5_helpedOf 24 = .ok (.iload 4, 2) := by decide +kernel
theorem dX5_helpedOf_26 : decode cX5_helpedOf 26 = .ok (.ifCond .ge 7, 3) := by decide +kernel
theorem dX5_helpedOf_29 : decode cX5_helpedOf 29 = .ok (.iconst 0, 1) := by decide +kernel
theorem dX5_helpedOf_30 : decode cX5_helpedOf 30 = .ok (.goto 7, 3) := by decide +kernel
theorem dX5_helpedOf_33 : decode cX5_helpedOf 33 = .ok (.iconst 1, 1) := by decide +kernel
theorem dX5_helpedOf_34 : decode cX5_helpedOf 34 = .ok (.iload 4, 2) := by decide +kernel
theorem dX5_helpedOf_36 : decode cX5_helpedOf 36 = .ok (.ishl, 1) := by decide +kernel
theorem dX5_helpedOf_37 : decode cX5_helpedOf 37 = .ok (.ior, 1) := by decide +kernel
theorem dX5_helpedOf_38 : decode cX5_helpedOf 38 = .ok (.istore_n 2, 1) := by decide +kernel
theorem dX5_helpedOf_39 : decode cX5_helpedOf 39 = .ok (.iinc 3 1, 3) := by decide +kernel
theorem dX5_helpedOf_42 : decode cX5_helpedOf 42 = .ok (.goto (-38), 3) := by decide +kernel
theorem dX5_helpedOf_45 : decode cX5_helpedOf 45 = .ok (.iload_n 2, 1) := by decide +kernel
theorem dX5_helpedOf_46 : decode cX5_helpedOf 46 = .ok (.ireturn, 1) := by decide +kernel
theorem dX5_sundayGoes_0 : decode cX5_sundayGoes 0 = .ok (.aload_n 0, 1) := by decide +kernel
theorem dX5_sundayGoes_1 : decode cX5_sundayGoes 1 = .ok (.aload_n 0, 1) := by decide +kernel
theorem dX5_sundayGoes_2 : decode cX5_sundayGoes 2 = .ok (.invokevirtual 65, 3) := by decide +kernel
theorem dX5_sundayGoes_5 : decode cX5_sundayGoes 5 = .ok (.invokevirtual 69, 3) := by decide +kernel
theorem dX5_sundayGoes_8 : decode cX5_sundayGoes 8 = .ok (.istore_n 1, 1) := by decide +kernel
theorem dX5_sundayGoes_9 : decode cX5_sundayGoes 9 = .ok (.aload_n 0, 1) := by decide +kernel
theorem dX5_sundayGoes_10 : decode cX5_sundayGoes 10 = .ok (.iload_n 1, 1) := by decide +kernel
theorem dX5_sundayGoes_11 : decode cX5_sundayGoes 11 = .ok (.invokevirtual 72, 3) := by decide +kernel
theorem dX5_sundayGoes_14 : decode cX5_sundayGoes 14 = .ok (.istore_n 2, 1) := by decide +kernel
theorem dX5_sundayGoes_15 : decode cX5_sundayGoes 15 = .ok (.aload_n 0, 1) := by decide +kernel
theorem dX5_sundayGoes_16 : decode cX5_sundayGoes 16 = .ok (.iload_n 1, 1) := by decide +kernel
theorem dX5_sundayGoes_17 : decode cX5_sundayGoes 17 = .ok (.iload_n 2, 1) := by decide +kernel
theorem dX5_sundayGoes_18 : decode cX5_sundayGoes 18 = .ok (.ior, 1) := by decide +kernel
theorem dX5_sundayGoes_19 : decode cX5_sundayGoes 19 = .ok (.invokevirtual 75, 3) := by decide +kernel
theorem dX5_sundayGoes_22 : decode cX5_sundayGoes 22 = .ok (.istore_n 3, 1) := by decide +kernel
theorem dX5_sundayGoes_23 : decode cX5_sundayGoes 23 = .ok (.aload_n 0, 1) := by decide +kernel
theorem dX5_sundayGoes_24 : decode cX5_sundayGoes 24 = .ok (.getfield 7, 3) := by decide +kernel
theorem dX5_sundayGoes_27 : decode cX5_sundayGoes 27 = .ok (.iconst 4, 1) := by decide +kernel
theorem dX5_sundayGoes_28 : decode cX5_sundayGoes 28 = .ok (.iaload, 1) := by decide +kernel
theorem dX5_sundayGoes_29 : decode cX5_sundayGoes 29 = .ok (.istore 4, 2) := by decide +kernel
theorem dX5_sundayGoes_31 : decode cX5_sundayGoes 31 = .ok (.iload_n 1, 1) := by decide +kernel
theorem dX5_sundayGoes_32 : decode cX5_sundayGoes 32 = .ok (.invokestatic 78, 3) := by decide +kernel
theorem dX5_sundayGoes_35 : decode cX5_sundayGoes 35 = .ok (.istore 5, 2) := by decide +kernel
theorem dX5_sundayGoes_37 : decode cX5_sundayGoes 37 = .ok (.iconst 0, 1) := by decide +kernel
theorem dX5_sundayGoes_38 : decode cX5_sundayGoes 38 = .ok (.istore 6, 2) := by decide +kernel
theorem dX5_sundayGoes_40 : decode cX5_sundayGoes 40 = .ok (.iload 6, 2) := by decide +kernel
theorem dX5_sundayGoes_42 : decode cX5_sundayGoes 42 = .ok (.aload_n 0, 1) := by decide +kernel
theorem dX5_sundayGoes_43 : decode cX5_sundayGoes 43 = .ok (.getfield 7, 3) := by decide +kernel
theorem dX5_sundayGoes_46 : decode cX5_sundayGoes 46 = .ok (.iconst 0, 1) := by decide +kernel
theorem dX5_sundayGoes_47 : decode cX5_sundayGoes 47 = .ok (.iaload, 1) := by decide +kernel
theorem dX5_sundayGoes_48 : decode cX5_sundayGoes 48 = .ok (.if_icmp .ge 190, 3) := by decide +kernel
theorem dX5_sundayGoes_51 : decode cX5_sundayGoes 51 = .ok (.aload_n 0, 1) := by decide +kernel
theorem dX5_sundayGoes_52 : decode cX5_sundayGoes 52 = .ok (.iload 6, 2) := by decide +kernel
theorem dX5_sundayGoes_54 : decode cX5_sundayGoes 54 = .ok (.iload 5, 2) := by decide +kernel
theorem dX5_sundayGoes_56 : decode cX5_sundayGoes 56 = .ok (.invokevirtual 81, 3) := by decide +kernel
theorem dX5_sundayGoes_59 : decode cX5_sundayGoes 59 = .ok (.ineg, 1) := by decide +kernel
theorem dX5_sundayGoes_60 : decode cX5_sundayGoes 60 = .ok (.istore 7, 2) := by decide +kernel
theorem dX5_sundayGoes_62 : decode cX5_sundayGoes 62 = .ok (.iconst 1, 1) := by decide +kernel
theorem dX5_sundayGoes_63 : decode cX5_sundayGoes 63 = .ok (.istore 8, 2) := by decide +kernel
theorem dX5_sundayGoes_65 : decode cX5_sundayGoes 65 = .ok (.iload_n 1, 1) := by decide +kernel
theorem dX5_sundayGoes_66 : decode cX5_sundayGoes 66 = .ok (.iload 6, 2) := by decide +kernel
theorem dX5_sundayGoes_68 : decode cX5_sundayGoes 68 = .ok (.ishr, 1) := by decide +kernel
theorem dX5_sundayGoes_69 : decode cX5_sundayGoes 69 = .ok (.iconst 1, 1) := by decide +kernel
theorem dX5_sundayGoes_70 : decode cX5_sundayGoes 70 = .ok (.iand, 1) := by decide +kernel
theorem dX5_sundayGoes_71 : decode cX5_sundayGoes 71 = .ok (.iconst 1, 1) := by decide +kernel
theorem dX5_sundayGoes_72 : decode cX5_sundayGoes 72 = .ok (.if_icmp .ne 66, 3) := by decide +kernel
theorem dX5_sundayGoes_75 : decode cX5_sundayGoes 75 = .ok (.aload_n 0, 1) := by decide +kernel
theorem dX5_sundayGoes_76 : decode cX5_sundayGoes 76 = .ok (.iload 6, 2) := by decide +kernel
theorem dX5_sundayGoes_78 : decode cX5_sundayGoes 78 = .ok (.invokevirtual 84, 3) := by decide +kernel
theorem dX5_sundayGoes_81 : decode cX5_sundayGoes 81 = .ok (.iload 4, 2) := by decide +kernel
theorem dX5_sundayGoes_83 : decode cX5_sundayGoes 83 = .ok (.ifCond .le 7, 3) := by decide +kernel
theorem dX5_sundayGoes_86 : decode cX5_sundayGoes 86 = .ok (.iconst 1, 1) := by decide +kernel
theorem dX5_sundayGoes_87 : decode cX5_sundayGoes 87 = .ok (.goto 4, 3) := by decide +kernel
theorem dX5_sundayGoes_90 : decode cX5_sundayGoes 90 = .ok (.iconst 0, 1) := by decide +kernel
theorem dX5_sundayGoes_91 : decode cX5_sundayGoes 91 = .ok (.iadd, 1) := by decide +kernel
theorem dX5_sundayGoes_92 : decode cX5_sundayGoes 92 = .ok (.istore 7, 2) := by decide +kernel
theorem dX5_sundayGoes_94 : decode cX5_sundayGoes 94 = .ok (.iload 4, 2) := by decide +kernel
theorem dX5_sundayGoes_96 : decode cX5_sundayGoes 96 = .ok (.iload 4, 2) := by decide +kernel
theorem dX5_sundayGoes_98 : decode cX5_sundayGoes 98 = .ok (.ifCond .le 7, 3) := by decide +kernel
theorem dX5_sundayGoes_101 : decode cX5_sundayGoes 101 = .ok (.iconst 1, 1) := by decide +kernel
theorem dX5_sundayGoes_102 : decode cX5_sundayGoes 102 = .ok (.goto 4, 3) := by decide +kernel
theorem dX5_sundayGoes_105 : decode cX5_sundayGoes 105 = .ok (.iconst 0, 1) := by decide +kernel
theorem dX5_sundayGoes_106 : decode cX5_sundayGoes 106 = .ok (.isub, 1) := by decide +kernel
theorem dX5_sundayGoes_107 : decode cX5_sundayGoes 107 = .ok (.istore 4, 2) := by decide +kernel
theorem dX5_sundayGoes_109 : decode cX5_sundayGoes 109 = .ok (.iconst 0, 1) := by decide +kernel
theorem dX5_sundayGoes_110 : decode cX5_sundayGoes 110 = .ok (.istore 8, 2) := by decide +kernel
theorem dX5_sundayGoes_112 : decode cX5_sundayGoes 112 = .ok (.aload_n 0, 1) := by decide +kernel
theorem dX5_sundayGoes_113 : decode cX5_sundayGoes 113 = .ok (.iload 6, 2) := by decide +kernel
theorem dX5_sundayGoes_115 : decode cX5_sundayGoes 115 = .ok (.iconst 4, 1) := by decide +kernel
theorem dX5_sundayGoes_116 : decode cX5_sundayGoes 116 = .ok (.aload_n 0, 1) := by decide +kernel
theorem dX5_sundayGoes_117 : decode cX5_sundayGoes 117 = .ok (.iload 6, 2) := by decide +kernel
theorem dX5_sundayGoes_119 : decode cX5_sundayGoes 119 = .ok (.iconst 4, 1) := by decide +kernel
theorem dX5_sundayGoes_120 : decode cX5_sundayGoes 120 = .ok (.invokevirtual 46, 3) := by decide +kernel
theorem dX5_sundayGoes_123 : decode cX5_sundayGoes 123 = .ok (.iconst 1, 1) := by decide +kernel
theorem dX5_sundayGoes_124 : decode cX5_sundayGoes 124 = .ok (.iadd, 1) := by decide +kernel
theorem dX5_sundayGoes_125 : decode cX5_sundayGoes 125 = .ok (.iconst 0, 1) := by decide +kernel
theorem dX5_sundayGoes_126 : decode cX5_sundayGoes 126 = .ok (.sipush 9999, 3) := by decide +kernel
theorem dX5_sundayGoes_129 : decode cX5_sundayGoes 129 = .ok (.invokestatic 50, 3) := by decide +kernel
theorem dX5_sundayGoes_132 : decode cX5_sundayGoes 132 = .ok (.invokevirtual 87, 3) := by decide +kernel
theorem dX5_sundayGoes_135 : decode cX5_sundayGoes 135 = .ok (.goto 42, 3) := by decide +kernel
theorem dX5_sundayGoes_138 : decode cX5_sundayGoes 138 = .ok (.iload_n 2, 1) := by decide +kernel
theorem dX5_sundayGoes_139 : decode cX5_sundayGoes 139 = .ok (.iload 6, 2) := by decide +kernel
theorem dX5_sundayGoes_141 : decode cX5_sundayGoes 141 = .ok (.ishr, 1) := by decide +kernel
theorem dX5_sundayGoes_142 : decode cX5_sundayGoes 142 = .ok (.iconst 1, 1) := by decide +kernel
theorem dX5_sundayGoes_143 : decode cX5_sundayGoes 143 = .ok (.iand, 1) := by decide +kernel
theorem dX5_sundayGoes_144 : decode cX5_sundayGoes 144 = .ok (.iconst 1, 1) := by decide +kernel
theorem dX5_sundayGoes_145 : decode cX5_sundayGoes 145 = .ok (.if_icmp .ne 16, 3) := by decide +kernel
theorem dX5_sundayGoes_148 : decode cX5_sundayGoes 148 = .ok (.aload_n 0, 1) := by decide +kernel
theorem dX5_sundayGoes_149 : decode cX5_sundayGoes 149 = .ok (.iload 6, 2) := by decide +kernel
theorem dX5_sundayGoes_151 : decode cX5_sundayGoes 151 = .ok (.invokevirtual 84, 3) := by decide +kernel
theorem dX5_sundayGoes_154 : decode cX5_sundayGoes 154 = .ok (.iconst 2, 1) := by decide +kernel
theorem dX5_sundayGoes_155 : decode cX5_sundayGoes 155 = .ok (.idiv, 1) := by decide +kernel
theorem dX5_sundayGoes_156 : decode cX5_sundayGoes 156 = .ok (.istore 7, 2) := by decide +kernel
theorem dX5_sundayGoes_158 : decode cX5_sundayGoes 158 = .ok (.goto 19, 3) := by decide +kernel
theorem dX5_sundayGoes_161 : decode cX5_sundayGoes 161 = .ok (.iload_n 3, 1) := by decide +kernel
theorem dX5_sundayGoes_162 : decode cX5_sundayGoes 162 = .ok (.iload 6, 2) := by decide +kernel
theorem dX5_sundayGoes_164 : decode cX5_sundayGoes 164 = .ok (.ishr, 1) := by decide +kernel
theorem dX5_sundayGoes_165 : decode cX5_sundayGoes 165 = .ok (.iconst 1, 1) := by decide +kernel
theorem dX5_sundayGoes_166 : decode cX5_sundayGoes 166 = .ok (.iand, 1) := by decide +kernel
theorem dX5_sundayGoes_167 : decode cX5_sundayGoes 167 = .ok (.iconst 1, 1) := by decide +kernel
theorem dX5_sundayGoes_168 : decode cX5_sundayGoes 168 = .ok (.if_icmp .ne 9, 3) := by decide +kernel
theorem dX5_sundayGoes_171 : decode cX5_sundayGoes 171 = .ok (.iconst 4, 1) := by decide +kernel
theorem dX5_sundayGoes_172 : decode cX5_sundayGoes 172 = .ok (.istore 7, 2) := by decide +kernel
theorem dX5_sundayGoes_174 : decode cX5_sundayGoes 174 = .ok (.iconst 0, 1) := by decide +kernel
theorem dX5_sundayGoes_175 : decode cX5_sundayGoes 175 = .ok (.istore 8, 2) := by decide +kernel
theorem dX5_sundayGoes_177 : decode cX5_sundayGoes 177 = .ok (.aload_n 0, 1) := by decide +kernel
theorem dX5_sundayGoes_178 : decode cX5_sundayGoes 178 = .ok (.iload 6, 2) := by decide +kernel
theorem dX5_sundayGoes_180 : decode cX5_sundayGoes 180 = .ok (.iconst 1, 1) := by decide +kernel
theorem dX5_sundayGoes_181 : decode cX5_sundayGoes 181 = .ok (.aload_n 0, 1) := by decide +kernel
theorem dX5_sundayGoes_182 : decode cX5_sundayGoes 182 = .ok (.iload 6, 2) := by decide +kernel
theorem dX5_sundayGoes_184 : decode cX5_sundayGoes 184 = .ok (.iconst 1, 1) := by decide +kernel
theorem dX5_sundayGoes_185 : decode cX5_sundayGoes 185 = .ok (.invokevirtual 46, 3) := by decide +kernel
theorem dX5_sundayGoes_188 : decode cX5_sundayGoes 188 = .ok (.iload 7, 2) := by decide +kernel
theorem dX5_sundayGoes_190 : decode cX5_sundayGoes 190 = .ok (.iadd, 1) := by decide +kernel
theorem dX5_sundayGoes_191 : decode cX5_sundayGoes 191 = .ok (.iconst 0, 1) := by decide +kernel
theorem dX5_sundayGoes_192 : decode cX5_sundayGoes 192 = .ok (.bipush 99, 2) := by decide +kernel
theorem dX5_sundayGoes_194 : decode cX5_sundayGoes 194 = .ok (.invokestatic 50, 3) := by decide +kernel
theorem dX5_sundayGoes_197 : decode cX5_sundayGoes 197 = .ok (.invokevirtual 87, 3) := by decide +kernel
theorem dX5_sundayGoes_200 : decode cX5_sundayGoes 200 = .ok (.aload_n 0, 1) := by decide +kernel
theorem dX5_sundayGoes_201 : decode cX5_sundayGoes 201 = .ok (.iload 6, 2) := by decide +kernel
theorem dX5_sundayGoes_203 : decode cX5_sundayGoes 203 = .ok (.iconst 3, 1) := by decide +kernel
theorem dX5_sundayGoes_204 : decode cX5_sundayGoes 204 = .ok (.iload 8, 2) := by decide +kernel
theorem dX5_sundayGoes_206 : decode cX5_sundayGoes 206 = .ok (.ifCond .eq 22, 3) := by decide +kernel
theorem dX5_sundayGoes_209 : decode cX5_sundayGoes 209 = .ok (.aload_n 0, 1) := by decide +kernel
theorem dX5_sundayGoes_210 : decode cX5_sundayGoes 210 = .ok (.iload 6, 2) := by decide +kernel
theorem dX5_sundayGoes_212 : decode cX5_sundayGoes 212 = .ok (.iconst 3, 1) := by decide +kernel
theorem dX5_sundayGoes_213 : decode cX5_sundayGoes 213 = .ok (.invokevirtual 46, 3) := by decide +kernel
theorem dX5_sundayGoes_216 : decode cX5_sundayGoes 216 = .ok (.iconst 1, 1) := by decide +kernel
theorem dX5_sundayGoes_217 : decode cX5_sundayGoes 217 = .ok (.iadd, 1) := by decide +kernel
theorem dX5_sundayGoes_218 : decode cX5_sundayGoes 218 = .ok (.iconst 0, 1) := by decide +kernel
theorem dX5_sundayGoes_219 : decode cX5_sundayGoes 219 = .ok (.sipush 9999, 3) := by decide +kernel
theorem dX5_sundayGoes_222 : decode cX5_sundayGoes 222 = .ok (.invokestatic 50, 3) := by decide +kernel
theorem dX5_sundayGoes_225 : decode cX5_sundayGoes 225 = .ok (.goto 4, 3) := by decide +kernel
theorem dX5_sundayGoes_228 : decode cX5_sundayGoes 228 = .ok (.iconst 0, 1) := by decide +kernel
theorem dX5_sundayGoes_229 : decode cX5_sundayGoes 229 = .ok (.invokevirtual 87, 3) := by decide +kernel
theorem dX5_sundayGoes_232 : decode cX5_sundayGoes 232 = .ok (.iinc 6 1, 3) := by decide +kernel
theorem dX5_sundayGoes_235 : decode cX5_sundayGoes 235 = .ok (.goto (-195), 3) := by decide +kernel
theorem dX5_sundayGoes_238 : decode cX5_sundayGoes 238 = .ok (.aload_n 0, 1) := by decide +kernel
theorem dX5_sundayGoes_239 : decode cX5_sundayGoes 239 = .ok (.getfield 7, 3) := by decide +kernel
theorem dX5_sundayGoes_242 : decode cX5_sundayGoes 242 = .ok (.iconst 1, 1) := by decide +kernel
theorem dX5_sundayGoes_243 : decode cX5_sundayGoes 243 = .ok (.aload_n 0, 1) := by decide +kernel
theorem dX5_sundayGoes_244 : decode cX5_sundayGoes 244 = .ok (.getfield 7, 3) := by decide +kernel
theorem dX5_sundayGoes_247 : decode cX5_sundayGoes 247 = .ok (.iconst 1, 1) := by decide +kernel
theorem dX5_sundayGoes_248 : decode cX5_sundayGoes 248 = .ok (.iaload, 1) := by decide +kernel
theorem dX5_sundayGoes_249 : decode cX5_sundayGoes 249 = .ok (.iconst 1, 1) := by decide +kernel
theorem dX5_sundayGoes_250 : decode cX5_sundayGoes 250 = .ok (.iadd, 1) := by decide +kernel
theorem dX5_sundayGoes_251 : decode cX5_sundayGoes 251 = .ok (.iconst 0, 1) := by decide +kernel
theorem dX5_sundayGoes_252 : decode cX5_sundayGoes 252 = .ok (.ldc 91, 2) := by decide +kernel
theorem dX5_sundayGoes_254 : decode cX5_sundayGoes 254 = .ok (.invokestatic 50, 3) := by decide +kernel
theorem dX5_sundayGoes_257 : decode cX5_sundayGoes 257 = .ok (.iastore, 1) := by decide +kernel
theorem dX5_sundayGoes_258 : decode cX5_sundayGoes 258 = .ok (.return_, 1) := by decide +kernel
theorem dX5_sundaysGo_0 : decode cX5_sundaysGo 0 = .ok (.iconst 0, 1) := by decide +kernel
theorem dX5_sundaysGo_1 : decode cX5_sundaysGo 1 = .ok (.istore_n 2, 1) := by decide +kernel
theorem dX5_sundaysGo_2 : decode cX5_sundaysGo 2 = .ok (.iload_n 2, 1) := by decide +kernel
theorem dX5_sundaysGo_3 : decode cX5_sundaysGo 3 = .ok (.iload_n 1, 1) := by decide +kernel
theorem dX5_sundaysGo_4 : decode cX5_sundaysGo 4 = .ok (.if_icmp .ge 13, 3) := by decide +kernel
theorem dX5_sundaysGo_7 : decode cX5_sundaysGo 7 = .ok (.aload_n 0, 1) := by decide +kernel
theorem dX5_sundaysGo_8 : decode cX5_sundaysGo 8 = .ok (.invokevirtual 92, 3) := by decide +kernel
theorem dX5_sundaysGo_11 : decode cX5_sundaysGo 11 = .ok (.iinc 2 1, 3) := by decide +kernel
theorem dX5_sundaysGo_14 : decode cX5_sundaysGo 14 = .ok (.goto (-12), 3) := by decide +kernel
theorem dX5_sundaysGo_17 : decode cX5_sundaysGo 17 = .ok (.return_, 1) := by decide +kernel
theorem dX5_sumOf_0 : decode cX5_sumOf 0 = .ok (.iconst 0, 1) := by decide +kernel
theorem dX5_sumOf_1 : decode cX5_sumOf 1 = .ok (.istore_n 2, 1) := by decide +kernel
theorem dX5_sumOf_2 : decode cX5_sumOf 2 = .ok (.iconst 0, 1) := by decide +kernel
theorem dX5_sumOf_3 : decode cX5_sumOf 3 = .ok (.istore_n 3, 1) := by decide +kernel
theorem dX5_sumOf_4 : decode cX5_sumOf 4 = .ok (.iload_n 3, 1) := by decide +kernel
theorem dX5_sumOf_5 : decode cX5_sumOf 5 = .ok (.aload_n 0, 1) := by decide +kernel
theorem dX5_sumOf_6 : decode cX5_sumOf 6 = .ok (.getfield 7, 3) := by decide +kernel
theorem dX5_sumOf_9 : decode cX5_sumOf 9 = .ok (.iconst 0, 1) := by decide +kernel
theorem dX5_sumOf_10 : decode cX5_sumOf 10 = .ok (.iaload, 1) := by decide +kernel
theorem dX5_sumOf_11 : decode cX5_sumOf 11 = .ok (.if_icmp .ge 18, 3) := by decide +kernel
theorem dX5_sumOf_14 : decode cX5_sumOf 14 = .ok (.iload_n 2, 1) := by decide +kernel
theorem dX5_sumOf_15 : decode cX5_sumOf 15 = .ok (.aload_n 0, 1) := by decide +kernel
theorem dX5_sumOf_16 : decode cX5_sumOf 16 = .ok (.iload_n 3, 1) := by decide +kernel
theorem dX5_sumOf_17 : decode cX5_sumOf 17 = .ok (.iload_n 1, 1) := by decide +kernel
theorem dX5_sumOf_18 : decode cX5_sumOf 18 = .ok (.invokevirtual 46, 3) := by decide +kernel
theorem dX5_sumOf_21 : decode cX5_sumOf 21 = .ok (.iadd, 1) := by decide +kernel
theorem dX5_sumOf_22 : decode cX5_sumOf 22 = .ok (.istore_n 2, 1) := by decide +kernel
theorem dX5_sumOf_23 : decode cX5_sumOf 23 = .ok (.iinc 3 1, 3) := by decide +kernel
theorem dX5_sumOf_26 : decode cX5_sumOf 26 = .ok (.goto (-22), 3) := by decide +kernel
theorem dX5_sumOf_29 : decode cX5_sumOf 29 = .ok (.iload_n 2, 1) := by decide +kernel
theorem dX5_sumOf_30 : decode cX5_sumOf 30 = .ok (.ireturn, 1) := by decide +kernel
theorem dX5_wells_0 : decode cX5_wells 0 = .ok (.iconst 0, 1) := by decide +kernel
theorem dX5_wells_1 : decode cX5_wells 1 = .ok (.istore_n 1, 1) := by decide +kernel
theorem dX5_wells_2 : decode cX5_wells 2 = .ok (.iconst 0, 1) := by decide +kernel
theorem dX5_wells_3 : decode cX5_wells 3 = .ok (.istore_n 2, 1) := by decide +kernel
theorem dX5_wells_4 : decode cX5_wells 4 = .ok (.iload_n 2, 1) := by decide +kernel
theorem dX5_wells_5 : decode cX5_wells 5 = .ok (.aload_n 0, 1) := by decide +kernel
theorem dX5_wells_6 : decode cX5_wells 6 = .ok (.getfield 7, 3) := by decide +kernel
theorem dX5_wells_9 : decode cX5_wells 9 = .ok (.iconst 0, 1) := by decide +kernel
theorem dX5_wells_10 : decode cX5_wells 10 = .ok (.iaload, 1) := by decide +kernel
theorem dX5_wells_11 : decode cX5_wells 11 = .ok (.if_icmp .ge 30, 3) := by decide +kernel
theorem dX5_wells_14 : decode cX5_wells 14 = .ok (.iload_n 1, 1) := by decide +kernel
theorem dX5_wells_15 : decode cX5_wells 15 = .ok (.aload_n 0, 1) := by decide +kernel
theorem dX5_wells_16 : decode cX5_wells 16 = .ok (.iload_n 2, 1) := by decide +kernel
theorem dX5_wells_17 : decode cX5_wells 17 = .ok (.iconst 1, 1) := by decide +kernel
theorem dX5_wells_18 : decode cX5_wells 18 = .ok (.invokevirtual 46, 3) := by decide +kernel
theorem dX5_wells_21 : decode cX5_wells 21 = .ok (.bipush 60, 2) := by decide +kernel
theorem dX5_wells_23 : decode cX5_wells 23 = .ok (.if_icmp .lt 9, 3) := by decide +kernel
theorem dX5_wells_26 : decode cX5_wells 26 = .ok (.iconst 1, 1) := by decide +kernel
theorem dX5_wells_27 : decode cX5_wells 27 = .ok (.iload_n 2, 1) := by decide +kernel
theorem dX5_wells_28 : decode cX5_wells 28 = .ok (.ishl, 1) := by decide +kernel
theorem dX5_wells_29 : decode cX5_wells 29 = .ok (.goto 4, 3) := by decide +kernel
theorem dX5_wells_32 : decode cX5_wells 32 = .ok (.iconst 0, 1) := by decide +kernel
theorem dX5_wells_33 : decode cX5_wells 33 = .ok (.ior, 1) := by decide +kernel
theorem dX5_wells_34 : decode cX5_wells 34 = .ok (.istore_n 1, 1) := by decide +kernel
theorem dX5_wells_35 : decode cX5_wells 35 = .ok (.iinc 2 1, 3) := by decide +kernel
theorem dX5_wells_38 : decode cX5_wells 38 = .ok (.goto (-34), 3) := by decide +kernel
theorem dX5_wells_41 : decode cX5_wells 41 = .ok (.iload_n 1, 1) := by decide +kernel
theorem dX5_wells_42 : decode cX5_wells 42 = .ok (.ireturn, 1) := by decide +kernel
theorem dX5_isSet_0 : decode cX5_isSet 0 = .ok (.iload_n 0, 1) := by decide +kernel
theorem dX5_isSet_1 : decode cX5_isSet 1 = .ok (.ifCond .eq 8, 3) := by decide +kernel
theorem dX5_isSet_4 : decode cX5_isSet 4 = .ok (.iload_n 0, 1) := by decide +kernel
theorem dX5_isSet_5 : decode cX5_isSet 5 = .ok (.iconst 1, 1) := by decide +kernel
theorem dX5_isSet_6 : decode cX5_isSet 6 = .ok (.if_icmp .ne 15, 3) := by decide +kernel
theorem dX5_isSet_9 : decode cX5_isSet 9 = .ok (.iload_n 1, 1) := by decide +kernel
theorem dX5_isSet_10 : decode cX5_isSet 10 = .ok (.i2l, 1) := by decide +kernel
theorem dX5_isSet_11 : decode cX5_isSet 11 = .ok (.lconst 0, 1) := by decide +kernel
theorem dX5_isSet_12 : decode cX5_isSet 12 = .ok (.ldc2_w 95, 3) := by decide +kernel
theorem dX5_isSet_15 : decode cX5_isSet 15 = .ok (.invokestatic 42, 3) := by decide +kernel
theorem dX5_isSet_18 : decode cX5_isSet 18 = .ok (.goto 42, 3) := by decide +kernel
theorem dX5_isSet_21 : decode cX5_isSet 21 = .ok (.iload_n 0, 1) := by decide +kernel
theorem dX5_isSet_22 : decode cX5_isSet 22 = .ok (.iconst 2, 1) := by decide +kernel
theorem dX5_isSet_23 : decode cX5_isSet 23 = .ok (.if_icmp .ne 15, 3) := by decide +kernel
theorem dX5_isSet_26 : decode cX5_isSet 26 = .ok (.iload_n 1, 1) := by decide +kernel
theorem dX5_isSet_27 : decode cX5_isSet 27 = .ok (.i2l, 1) := by decide +kernel
theorem dX5_isSet_28 : decode cX5_isSet 28 = .ok (.lconst 0, 1) := by decide +kernel
theorem dX5_isSet_29 : decode cX5_isSet 29 = .ok (.ldc2_w 97, 3) := by decide +kernel
theorem dX5_isSet_32 : decode cX5_isSet 32 = .ok (.invokestatic 42, 3) := by decide +kernel
theorem dX5_isSet_35 : decode cX5_isSet 35 = .ok (.goto 25, 3) := by decide +kernel
theorem dX5_isSet_38 : decode cX5_isSet 38 = .ok (.iload_n 0, 1) := by decide +kernel
theorem dX5_isSet_39 : decode cX5_isSet 39 = .ok (.iconst 3, 1) := by decide +kernel
theorem dX5_isSet_40 : decode cX5_isSet 40 = .ok (.if_icmp .ne 19, 3) := by decide +kernel
theorem dX5_isSet_43 : decode cX5_isSet 43 = .ok (.iload_n 1, 1) := by decide +kernel
theorem dX5_isSet_44 : decode cX5_isSet 44 = .ok (.i2l, 1) := by decide +kernel
theorem dX5_isSet_45 : decode cX5_isSet 45 = .ok (.lconst 1, 1) := by decide +kernel
theorem dX5_isSet_46 : decode cX5_isSet 46 = .ok (.ldc2_w 99, 3) := by decide +kernel
theorem dX5_isSet_49 : decode cX5_isSet 49 = .ok (.invokestatic 42, 3) := by decide +kernel
theorem dX5_isSet_52 : decode cX5_isSet 52 = .ok (.ifCond .eq 7, 3) := by decide +kernel
theorem dX5_isSet_55 : decode cX5_isSet 55 = .ok (.iconst 1, 1) := by decide +kernel
theorem dX5_isSet_56 : decode cX5_isSet 56 = .ok (.goto 4, 3) := by decide +kernel
theorem dX5_isSet_59 : decode cX5_isSet 59 = .ok (.iconst 0, 1) := by decide +kernel
theorem dX5_isSet_60 : decode cX5_isSet 60 = .ok (.ireturn, 1) := by decide +kernel
theorem dX5_set_0 : decode cX5_set 0 = .ok (.iload_n 1, 1) := by decide +kernel
theorem dX5_set_1 : decode cX5_set 1 = .ok (.iload_n 2, 1) := by decide +kernel
theorem dX5_set_2 : decode cX5_set 2 = .ok (.invokestatic 101, 3) := by decide +kernel
theorem dX5_set_5 : decode cX5_set 5 = .ok (.ifCond .eq 14, 3) := by decide +kernel
theorem dX5_set_8 : decode cX5_set 8 = .ok (.aload_n 0, 1) := by decide +kernel
theorem dX5_set_9 : decode cX5_set 9 = .ok (.iconst 3, 1) := by decide +kernel
theorem dX5_set_10 : decode cX5_set 10 = .ok (.iload_n 1, 1) := by decide +kernel
theorem dX5_set_11 : decode cX5_set 11 = .ok (.iadd, 1) := by decide +kernel
theorem dX5_set_12 : decode cX5_set 12 = .ok (.iload_n 2, 1) := by decide +kernel
theorem dX5_set_13 : decode cX5_set 13 = .ok (.invokevirtual 105, 3) := by decide +kernel
theorem dX5_set_16 : decode cX5_set 16 = .ok (.goto 8, 3) := by decide +kernel
theorem dX5_set_19 : decode cX5_set 19 = .ok (.aload_n 0, 1) := by decide +kernel
theorem dX5_set_20 : decode cX5_set 20 = .ok (.iconst 0, 1) := by decide +kernel
theorem dX5_set_21 : decode cX5_set 21 = .ok (.invokevirtual 108, 3) := by decide +kernel
theorem dX5_set_24 : decode cX5_set 24 = .ok (.ireturn, 1) := by decide +kernel
theorem dX5_home_0 : decode cX5_home 0 = .ok (.iload_n 1, 1) := by decide +kernel
theorem dX5_home_1 : decode cX5_home 1 = .ok (.i2l, 1) := by decide +kernel
theorem dX5_home_2 : decode cX5_home 2 = .ok (.lconst 0, 1) := by decide +kernel
theorem dX5_home_3 : decode cX5_home 3 = .ok (.ldc2_w 111, 3) := by decide +kernel
theorem dX5_home_6 : decode cX5_home 6 = .ok (.invokestatic 42, 3) := by decide +kernel
theorem dX5_home_9 : decode cX5_home 9 = .ok (.ifCond .eq 14, 3) := by decide +kernel
theorem dX5_home_12 : decode cX5_home 12 = .ok (.aload_n 0, 1) := by decide +kernel
theorem dX5_home_13 : decode cX5_home 13 = .ok (.getfield 7, 3) := by decide +kernel
theorem dX5_home_16 : decode cX5_home 16 = .ok (.iconst 3, 1) := by decide +kernel
theorem dX5_home_17 : decode cX5_home 17 = .ok (.iload_n 1, 1) := by decide +kernel
theorem dX5_home_18 : decode cX5_home 18 = .ok (.iadd, 1) := by decide +kernel
theorem dX5_home_19 : decode cX5_home 19 = .ok (.iaload, 1) := by decide +kernel
theorem dX5_home_20 : decode cX5_home 20 = .ok (.goto 8, 3) := by decide +kernel
theorem dX5_home_23 : decode cX5_home 23 = .ok (.aload_n 0, 1) := by decide +kernel
theorem dX5_home_24 : decode cX5_home 24 = .ok (.iconst 0, 1) := by decide +kernel
theorem dX5_home_25 : decode cX5_home 25 = .ok (.invokevirtual 108, 3) := by decide +kernel
theorem dX5_home_28 : decode cX5_home 28 = .ok (.ireturn, 1) := by decide +kernel
theorem dX5_isPlace_0 : decode cX5_isPlace 0 = .ok (.iload_n 0, 1) := by decide +kernel
theorem dX5_isPlace_1 : decode cX5_isPlace 1 = .ok (.i2l, 1) := by decide +kernel
theorem dX5_isPlace_2 : decode cX5_isPlace 2 = .ok (.lconst 0, 1) := by decide +kernel
theorem dX5_isPlace_3 : decode cX5_isPlace 3 = .ok (.ldc2_w 113, 3) := by decide +kernel
theorem dX5_isPlace_6 : decode cX5_isPlace 6 = .ok (.invokestatic 42, 3) := by decide +kernel
theorem dX5_isPlace_9 : decode cX5_isPlace 9 = .ok (.ireturn, 1) := by decide +kernel
theorem dX5_visit_0 : decode cX5_visit 0 = .ok (.iload_n 1, 1) := by decide +kernel
theorem dX5_visit_1 : decode cX5_visit 1 = .ok (.invokestatic 115, 3) := by decide +kernel
theorem dX5_visit_4 : decode cX5_visit 4 = .ok (.ifCond .eq 27, 3) := by decide +kernel
theorem dX5_visit_7 : decode cX5_visit 7 = .ok (.iload_n 2, 1) := by decide +kernel
theorem dX5_visit_8 : decode cX5_visit 8 = .ok (.i2l, 1) := by decide +kernel
theorem dX5_visit_9 : decode cX5_visit 9 = .ok (.lconst 0, 1) := by decide +kernel
theorem dX5_visit_10 : decode cX5_visit 10 = .ok (.ldc2_w 118, 3) := by decide +kernel
theorem dX5_visit_13 : decode cX5_visit 13 = .ok (.invokestatic 42, 3) := by decide +kernel
theorem dX5_visit_16 : decode cX5_visit 16 = .ok (.ifCond .eq 15, 3) := by decide +kernel
theorem dX5_visit_19 : decode cX5_visit 19 = .ok (.aload_n 0, 1) := by decide +kernel
theorem dX5_visit_20 : decode cX5_visit 20 = .ok (.bipush 7, 2) := by decide +kernel
theorem dX5_visit_22 : decode cX5_visit 22 = .ok (.iload_n 1, 1) := by decide +kernel
theorem dX5_visit_23 : decode cX5_visit 23 = .ok (.iadd, 1) := by decide +kernel
theorem dX5_visit_24 : decode cX5_visit 24 = .ok (.iload_n 2, 1) := by decide +kernel
theorem dX5_visit_25 : decode cX5_visit 25 = .ok (.invokevirtual 105, 3) := by decide +kernel
theorem dX5_visit_28 : decode cX5_visit 28 = .ok (.goto 8, 3) := by decide +kernel
theorem dX5_visit_31 : decode cX5_visit 31 = .ok (.aload_n 0, 1) := by decide +kernel
theorem dX5_visit_32 : decode cX5_visit 32 = .ok (.iconst 0, 1) := by decide +kernel
theorem dX5_visit_33 : decode cX5_visit 33 = .ok (.invokevirtual 108, 3) := by decide +kernel
theorem dX5_visit_36 : decode cX5_visit 36 = .ok (.ireturn, 1) := by decide +kernel
theorem dX5_visits_0 : decode cX5_visits 0 = .ok (.iload_n 1, 1) := by decide +kernel
theorem dX5_visits_1 : decode cX5_visits 1 = .ok (.invokestatic 115, 3) := by decide +kernel
theorem dX5_visits_4 : decode cX5_visits 4 = .ok (.ifCond .eq 15, 3) := by decide +kernel
theorem dX5_visits_7 : decode cX5_visits 7 = .ok (.aload_n 0, 1) := by decide +kernel
theorem dX5_visits_8 : decode cX5_visits 8 = .ok (.getfield 7, 3) := by decide +kernel
theorem dX5_visits_11 : decode cX5_visits 11 = .ok (.bipush 7, 2) := by decide +kernel
theorem dX5_visits_13 : decode cX5_visits 13 = .ok (.iload_n 1, 1) := by decide +kernel
theorem dX5_visits_14 : decode cX5_visits 14 = .ok (.iadd, 1) := by decide +kernel
theorem dX5_visits_15 : decode cX5_visits 15 = .ok (.iaload, 1) := by decide +kernel
theorem dX5_visits_16 : decode cX5_visits 16 = .ok (.goto 8, 3) := by decide +kernel
theorem dX5_visits_19 : decode cX5_visits 19 = .ok (.aload_n 0, 1) := by decide +kernel
theorem dX5_visits_20 : decode cX5_visits 20 = .ok (.iconst 0, 1) := by decide +kernel
theorem dX5_visits_21 : decode cX5_visits 21 = .ok (.invokevirtual 108, 3) := by decide +kernel
theorem dX5_visits_24 : decode cX5_visits 24 = .ok (.ireturn, 1) := by decide +kernel
theorem dX5_comes_0 : decode cX5_comes 0 = .ok (.aload_n 0, 1) := by decide +kernel
theorem dX5_comes_1 : decode cX5_comes 1 = .ok (.getfield 7, 3) := by decide +kernel
theorem dX5_comes_4 : decode cX5_comes 4 = .ok (.iconst 0, 1) := by decide +kernel
theorem dX5_comes_5 : decode cX5_comes 5 = .ok (.iaload, 1) := by decide +kernel
theorem dX5_comes_6 : decode cX5_comes 6 = .ok (.istore_n 2, 1) := by decide +kernel
theorem dX5_comes_7 : decode cX5_comes 7 = .ok (.aload_n 0, 1) := by decide +kernel
theorem dX5_comes_8 : decode cX5_comes 8 = .ok (.iload_n 2, 1) := by decide +kernel
theorem dX5_comes_9 : decode cX5_comes 9 = .ok (.iconst 0, 1) := by decide +kernel
theorem dX5_comes_10 : decode cX5_comes 10 = .ok (.iload_n 1, 1) := by decide +kernel
theorem dX5_comes_11 : decode cX5_comes 11 = .ok (.invokevirtual 87, 3) := by decide +kernel
theorem dX5_comes_14 : decode cX5_comes 14 = .ok (.aload_n 0, 1) := by decide +kernel
theorem dX5_comes_15 : decode cX5_comes 15 = .ok (.iload_n 2, 1) := by decide +kernel
theorem dX5_comes_16 : decode cX5_comes 16 = .ok (.iconst 1, 1) := by decide +kernel
theorem dX5_comes_17 : decode cX5_comes 17 = .ok (.bipush 50, 2) := by decide +kernel
theorem dX5_comes_19 : decode cX5_comes 19 = .ok (.invokevirtual 87, 3) := by decide +kernel
theorem dX5_comes_22 : decode cX5_comes 22 = .ok (.aload_n 0, 1) := by decide +kernel
theorem dX5_comes_23 : decode cX5_comes 23 = .ok (.iload_n 2, 1) := by decide +kernel
theorem dX5_comes_24 : decode cX5_comes 24 = .ok (.iconst 2, 1) := by decide +kernel
theorem dX5_comes_25 : decode cX5_comes 25 = .ok (.iconst (-1), 1) := by decide +kernel
theorem dX5_comes_26 : decode cX5_comes 26 = .ok (.invokevirtual 87, 3) := by decide +kernel
theorem dX5_comes_29 : decode cX5_comes 29 = .ok (.aload_n 0, 1) := by decide +kernel
theorem dX5_comes_30 : decode cX5_comes 30 = .ok (.iload_n 2, 1) := by decide +kernel
theorem dX5_comes_31 : decode cX5_comes 31 = .ok (.iconst 3, 1) := by decide +kernel
theorem dX5_comes_32 : decode cX5_comes 32 = .ok (.iconst 0, 1) := by decide +kernel
theorem dX5_comes_33 : decode cX5_comes 33 = .ok (.invokevirtual 87, 3) := by decide +kernel
theorem dX5_comes_36 : decode cX5_comes 36 = .ok (.aload_n 0, 1) := by decide +kernel
theorem dX5_comes_37 : decode cX5_comes 37 = .ok (.iload_n 2, 1) := by decide +kernel
theorem dX5_comes_38 : decode cX5_comes 38 = .ok (.iconst 4, 1) := by decide +kernel
theorem dX5_comes_39 : decode cX5_comes 39 = .ok (.iconst 0, 1) := by decide +kernel
theorem dX5_comes_40 : decode cX5_comes 40 = .ok (.invokevirtual 87, 3) := by decide +kernel
theorem dX5_comes_43 : decode cX5_comes 43 = .ok (.aload_n 0, 1) := by decide +kernel
theorem dX5_comes_44 : decode cX5_comes 44 = .ok (.getfield 7, 3) := by decide +kernel
theorem dX5_comes_47 : decode cX5_comes 47 = .ok (.iconst 0, 1) := by decide +kernel
theorem dX5_comes_48 : decode cX5_comes 48 = .ok (.dup2, 1) := by decide +kernel
theorem dX5_comes_49 : decode cX5_comes 49 = .ok (.iaload, 1) := by decide +kernel
theorem dX5_comes_50 : decode cX5_comes 50 = .ok (.iconst 1, 1) := by decide +kernel
theorem dX5_comes_51 : decode cX5_comes 51 = .ok (.iadd, 1) := by decide +kernel
theorem dX5_comes_52 : decode cX5_comes 52 = .ok (.iastore, 1) := by decide +kernel
theorem dX5_comes_53 : decode cX5_comes 53 = .ok (.iload_n 2, 1) := by decide +kernel
theorem dX5_comes_54 : decode cX5_comes 54 = .ok (.ireturn, 1) := by decide +kernel
theorem dX5_resident_0 : decode cX5_resident 0 = .ok (.iload_n 1, 1) := by decide +kernel
theorem dX5_resident_1 : decode cX5_resident 1 = .ok (.i2l, 1) := by decide +kernel
theorem dX5_resident_2 : decode cX5_resident 2 = .ok (.lconst 0, 1) := by decide +kernel
theorem dX5_resident_3 : decode cX5_resident 3 = .ok (.ldc2_w 120, 3) := by decide +kernel
theorem dX5_resident_6 : decode cX5_resident 6 = .ok (.invokestatic 42, 3) := by decide +kernel
theorem dX5_resident_9 : decode cX5_resident 9 = .ok (.ifCond .ne 9, 3) := by decide +kernel
theorem dX5_resident_12 : decode cX5_resident 12 = .ok (.aload_n 0, 1) := by decide +kernel
theorem dX5_resident_13 : decode cX5_resident 13 = .ok (.iconst 0, 1) := by decide +kernel
theorem dX5_resident_14 : decode cX5_resident 14 = .ok (.invokevirtual 108, 3) := by decide +kernel
theorem dX5_resident_17 : decode cX5_resident 17 = .ok (.ireturn, 1) := by decide +kernel
theorem dX5_resident_18 : decode cX5_resident 18 = .ok (.aload_n 0, 1) := by decide +kernel
theorem dX5_resident_19 : decode cX5_resident 19 = .ok (.getfield 7, 3) := by decide +kernel
theorem dX5_resident_22 : decode cX5_resident 22 = .ok (.iconst 0, 1) := by decide +kernel
theorem dX5_resident_23 : decode cX5_resident 23 = .ok (.iaload, 1) := by decide +kernel
theorem dX5_resident_24 : decode cX5_resident 24 = .ok (.bipush 8, 2) := by decide +kernel
theorem dX5_resident_26 : decode cX5_resident 26 = .ok (.if_icmp .ne 11, 3) := by decide +kernel
theorem dX5_resident_29 : decode cX5_resident 29 = .ok (.aload_n 0, 1) := by decide +kernel
theorem dX5_resident_30 : decode cX5_resident 30 = .ok (.iconst 1, 1) := by decide +kernel
theorem dX5_resident_31 : decode cX5_resident 31 = .ok (.invokevirtual 108, 3) := by decide +kernel
theorem dX5_resident_34 : decode cX5_resident 34 = .ok (.goto 8, 3) := by decide +kernel
theorem dX5_resident_37 : decode cX5_resident 37 = .ok (.aload_n 0, 1) := by decide +kernel
theorem dX5_resident_38 : decode cX5_resident 38 = .ok (.iload_n 1, 1) := by decide +kernel
theorem dX5_resident_39 : decode cX5_resident 39 = .ok (.invokevirtual 122, 3) := by decide +kernel
theorem dX5_resident_42 : decode cX5_resident 42 = .ok (.ireturn, 1) := by decide +kernel
theorem dX5_of_0 : decode cX5_of 0 = .ok (.aload_n 0, 1) := by decide +kernel
theorem dX5_of_1 : decode cX5_of 1 = .ok (.iload_n 1, 1) := by decide +kernel
theorem dX5_of_2 : decode cX5_of 2 = .ok (.invokevirtual 125, 3) := by decide +kernel
theorem dX5_of_5 : decode cX5_of 5 = .ok (.ifCond .eq 15, 3) := by decide +kernel
theorem dX5_of_8 : decode cX5_of 8 = .ok (.iload_n 2, 1) := by decide +kernel
theorem dX5_of_9 : decode cX5_of 9 = .ok (.i2l, 1) := by decide +kernel
theorem dX5_of_10 : decode cX5_of 10 = .ok (.lconst 0, 1) := by decide +kernel
theorem dX5_of_11 : decode cX5_of 11 = .ok (.ldc2_w 97, 3) := by decide +kernel
theorem dX5_of_14 : decode cX5_of 14 = .ok (.invokestatic 42, 3) := by decide +kernel
theorem dX5_of_17 : decode cX5_of 17 = .ok (.ifCond .ne 9, 3) := by decide +kernel
theorem dX5_of_20 : decode cX5_of 20 = .ok (.aload_n 0, 1) := by decide +kernel
theorem dX5_of_21 : decode cX5_of 21 = .ok (.iconst 0, 1) := by decide +kernel
theorem dX5_of_22 : decode cX5_of 22 = .ok (.invokevirtual 108, 3) := by decide +kernel
theorem dX5_of_25 : decode cX5_of 25 = .ok (.ireturn, 1) := by decide +kernel
theorem dX5_of_26 : decode cX5_of 26 = .ok (.iload_n 2, 1) := by decide +kernel
theorem dX5_of_27 : decode cX5_of 27 = .ok (.tableswitch 62 5 8 #[29, 35, 41, 48], 29) := by decide +kernel
theorem dX5_of_56 : decode cX5_of 56 = .ok (.aload_n 0, 1) := by decide +kernel
theorem dX5_of_57 : decode cX5_of 57 = .ok (.iload_n 1, 1) := by decide +kernel
theorem dX5_of_58 : decode cX5_of 58 = .ok (.invokevirtual 54, 3) := by decide +kernel
theorem dX5_of_61 : decode cX5_of 61 = .ok (.ireturn, 1) := by decide +kernel
theorem dX5_of_62 : decode cX5_of 62 = .ok (.aload_n 0, 1) := by decide +kernel
theorem dX5_of_63 : decode cX5_of 63 = .ok (.iload_n 1, 1) := by decide +kernel
theorem dX5_of_64 : decode cX5_of 64 = .ok (.invokevirtual 84, 3) := by decide +kernel
theorem dX5_of_67 : decode cX5_of 67 = .ok (.ireturn, 1) := by decide +kernel
theorem dX5_of_68 : decode cX5_of 68 = .ok (.aload_n 0, 1) := by decide +kernel
theorem dX5_of_69 : decode cX5_of 69 = .ok (.iload_n 1, 1) := by decide +kernel
theorem dX5_of_70 : decode cX5_of 70 = .ok (.iconst 0, 1) := by decide +kernel
theorem dX5_of_71 : decode cX5_of 71 = .ok (.invokevirtual 81, 3) := by decide +kernel
theorem dX5_of_74 : decode cX5_of 74 = .ok (.ireturn, 1) := by decide +kernel
theorem dX5_of_75 : decode cX5_of 75 = .ok (.aload_n 0, 1) := by decide +kernel
theorem dX5_of_76 : decode cX5_of 76 = .ok (.iload_n 1, 1) := by decide +kernel
theorem dX5_of_77 : decode cX5_of 77 = .ok (.invokevirtual 58, 3) := by decide +kernel
theorem dX5_of_80 : decode cX5_of 80 = .ok (.ifCond .eq 7, 3) := by decide +kernel
theorem dX5_of_83 : decode cX5_of 83 = .ok (.iconst 1, 1) := by decide +kernel
theorem dX5_of_84 : decode cX5_of 84 = .ok (.goto 4, 3) := by decide +kernel
theorem dX5_of_87 : decode cX5_of 87 = .ok (.iconst 0, 1) := by decide +kernel
theorem dX5_of_88 : decode cX5_of 88 = .ok (.ireturn, 1) := by decide +kernel
theorem dX5_of_89 : decode cX5_of 89 = .ok (.aload_n 0, 1) := by decide +kernel
theorem dX5_of_90 : decode cX5_of 90 = .ok (.iload_n 1, 1) := by decide +kernel
theorem dX5_of_91 : decode cX5_of 91 = .ok (.iload_n 2, 1) := by decide +kernel
theorem dX5_of_92 : decode cX5_of 92 = .ok (.invokevirtual 46, 3) := by decide +kernel
theorem dX5_of_95 : decode cX5_of 95 = .ok (.ireturn, 1) := by decide +kernel
theorem dX5_isIts_0 : decode cX5_isIts 0 = .ok (.iload_n 2, 1) := by decide +kernel
theorem dX5_isIts_1 : decode cX5_isIts 1 = .ok (.ifCond .ne 15, 3) := by decide +kernel
theorem dX5_isIts_4 : decode cX5_isIts 4 = .ok (.iload_n 3, 1) := by decide +kernel
theorem dX5_isIts_5 : decode cX5_isIts 5 = .ok (.i2l, 1) := by decide +kernel
theorem dX5_isIts_6 : decode cX5_isIts 6 = .ok (.lconst 0, 1) := by decide +kernel
theorem dX5_isIts_7 : decode cX5_isIts 7 = .ok (.ldc2_w 120, 3) := by decide +kernel
theorem dX5_isIts_10 : decode cX5_isIts 10 = .ok (.invokestatic 42, 3) := by decide +kernel
theorem dX5_isIts_13 : decode cX5_isIts 13 = .ok (.goto 67, 3) := by decide +kernel
theorem dX5_isIts_16 : decode cX5_isIts 16 = .ok (.iload_n 2, 1) := by decide +kernel
theorem dX5_isIts_17 : decode cX5_isIts 17 = .ok (.iconst 1, 1) := by decide +kernel
theorem dX5_isIts_18 : decode cX5_isIts 18 = .ok (.if_icmp .ne 15, 3) := by decide +kernel
theorem dX5_isIts_21 : decode cX5_isIts 21 = .ok (.iload_n 3, 1) := by decide +kernel
theorem dX5_isIts_22 : decode cX5_isIts 22 = .ok (.i2l, 1) := by decide +kernel
theorem dX5_isIts_23 : decode cX5_isIts 23 = .ok (.lconst 0, 1) := by decide +kernel
theorem dX5_isIts_24 : decode cX5_isIts 24 = .ok (.ldc2_w 128, 3) := by decide +kernel
theorem dX5_isIts_27 : decode cX5_isIts 27 = .ok (.invokestatic 42, 3) := by decide +kernel
theorem dX5_isIts_30 : decode cX5_isIts 30 = .ok (.goto 50, 3) := by decide +kernel
theorem dX5_isIts_33 : decode cX5_isIts 33 = .ok (.iload_n 2, 1) := by decide +kernel
theorem dX5_isIts_34 : decode cX5_isIts 34 = .ok (.iconst 2, 1) := by decide +kernel
theorem dX5_isIts_35 : decode cX5_isIts 35 = .ok (.if_icmp .ne 36, 3) := by decide +kernel
theorem dX5_isIts_38 : decode cX5_isIts 38 = .ok (.iload_n 3, 1) := by decide +kernel
theorem dX5_isIts_39 : decode cX5_isIts 39 = .ok (.i2l, 1) := by decide +kernel
theorem dX5_isIts_40 : decode cX5_isIts 40 = .ok (.ldc2_w 130, 3) := by decide +kernel
theorem dX5_isIts_43 : decode cX5_isIts 43 = .ok (.aload_n 0, 1) := by decide +kernel
theorem dX5_isIts_44 : decode cX5_isIts 44 = .ok (.getfield 7, 3) := by decide +kernel
theorem dX5_isIts_47 : decode cX5_isIts 47 = .ok (.iconst 0, 1) := by decide +kernel
theorem dX5_isIts_48 : decode cX5_isIts 48 = .ok (.iaload, 1) := by decide +kernel
theorem dX5_isIts_49 : decode cX5_isIts 49 = .ok (.iconst 1, 1) := by decide +kernel
theorem dX5_isIts_50 : decode cX5_isIts 50 = .ok (.isub, 1) := by decide +kernel
theorem dX5_isIts_51 : decode cX5_isIts 51 = .ok (.i2l, 1) := by decide +kernel
theorem dX5_isIts_52 : decode cX5_isIts 52 = .ok (.invokestatic 42, 3) := by decide +kernel
theorem dX5_isIts_55 : decode cX5_isIts 55 = .ok (.ifCond .eq 12, 3) := by decide +kernel
theorem dX5_isIts_58 : decode cX5_isIts 58 = .ok (.iload_n 3, 1) := by decide +kernel
theorem dX5_isIts_59 : decode cX5_isIts 59 = .ok (.iload_n 1, 1) := by decide +kernel
theorem dX5_isIts_60 : decode cX5_isIts 60 = .ok (.if_icmp .eq 7, 3) := by decide +kernel
theorem dX5_isIts_63 : decode cX5_isIts 63 = .ok (.iconst 1, 1) := by decide +kernel
theorem dX5_isIts_64 : decode cX5_isIts 64 = .ok (.goto 16, 3) := by decide +kernel
theorem dX5_isIts_67 : decode cX5_isIts 67 = .ok (.iconst 0, 1) := by decide +kernel
theorem dX5_isIts_68 : decode cX5_isIts 68 = .ok (.goto 12, 3) := by decide +kernel
theorem dX5_isIts_71 : decode cX5_isIts 71 = .ok (.iload_n 3, 1) := by decide +kernel
theorem dX5_isIts_72 : decode cX5_isIts 72 = .ok (.i2l, 1) := by decide +kernel
theorem dX5_isIts_73 : decode cX5_isIts 73 = .ok (.lconst 0, 1) := by decide +kernel
theorem dX5_isIts_74 : decode cX5_isIts 74 = .ok (.ldc2_w 132, 3) := by decide +kernel
theorem dX5_isIts_77 : decode cX5_isIts 77 = .ok (.invokestatic 42, 3) := by decide +kernel
theorem dX5_isIts_80 : decode cX5_isIts 80 = .ok (.ireturn, 1) := by decide +kernel
theorem dX5_change_0 : decode cX5_change 0 = .ok (.aload_n 0, 1) := by decide +kernel
theorem dX5_change_1 : decode cX5_change 1 = .ok (.iload_n 1, 1) := by decide +kernel
theorem dX5_change_2 : decode cX5_change 2 = .ok (.invokevirtual 125, 3) := by decide +kernel
theorem dX5_change_5 : decode cX5_change 5 = .ok (.ifCond .eq 42, 3) := by decide +kernel
theorem dX5_change_8 : decode cX5_change 8 = .ok (.iload_n 2, 1) := by decide +kernel
theorem dX5_change_9 : decode cX5_change 9 = .ok (.i2l, 1) := by decide +kernel
theorem dX5_change_10 : decode cX5_change 10 = .ok (.lconst 0, 1) := by decide +kernel
theorem dX5_change_11 : decode cX5_change 11 = .ok (.ldc2_w 134, 3) := by decide +kernel
theorem dX5_change_14 : decode cX5_change 14 = .ok (.invokestatic 42, 3) := by decide +kernel
theorem dX5_change_17 : decode cX5_change 17 = .ok (.ifCond .eq 30, 3) := by decide +kernel
theorem dX5_change_20 : decode cX5_change 20 = .ok (.aload_n 0, 1) := by decide +kernel
theorem dX5_change_21 : decode cX5_change 21 = .ok (.iload_n 1, 1) := by decide +kernel
theorem dX5_change_22 : decode cX5_change 22 = .ok (.iload_n 2, 1) := by decide +kernel
theorem dX5_change_23 : decode cX5_change 23 = .ok (.iload_n 3, 1) := by decide +kernel
theorem dX5_change_24 : decode cX5_change 24 = .ok (.invokevirtual 136, 3) := by decide +kernel
theorem dX5_change_27 : decode cX5_change 27 = .ok (.ifCond .eq 20, 3) := by decide +kernel
theorem dX5_change_30 : decode cX5_change 30 = .ok (.aload_n 0, 1) := by decide +kernel
theorem dX5_change_31 : decode cX5_change 31 = .ok (.bipush 13, 2) := by decide +kernel
theorem dX5_change_33 : decode cX5_change 33 = .ok (.bipush 8, 2) := by decide +kernel
theorem dX5_change_35 : decode cX5_change 35 = .ok (.iload_n 2, 1) := by decide +kernel
theorem dX5_change_36 : decode cX5_change 36 = .ok (.imul, 1) := by decide +kernel
theorem dX5_change_37 : decode cX5_change 37 = .ok (.iadd, 1) := by decide +kernel
theorem dX5_change_38 : decode cX5_change 38 = .ok (.iload_n 1, 1) := by decide +kernel
theorem dX5_change_39 : decode cX5_change 39 = .ok (.iadd, 1) := by decide +kernel
theorem dX5_change_40 : decode cX5_change 40 = .ok (.iload_n 3, 1) := by decide +kernel
theorem dX5_change_41 : decode cX5_change 41 = .ok (.invokevirtual 105, 3) := by decide +kernel
theorem dX5_change_44 : decode cX5_change 44 = .ok (.goto 8, 3) := by decide +kernel
theorem dX5_change_47 : decode cX5_change 47 = .ok (.aload_n 0, 1) := by decide +kernel
theorem dX5_change_48 : decode cX5_change 48 = .ok (.iconst 0, 1) := by decide +kernel
theorem dX5_change_49 : decode cX5_change 49 = .ok (.invokevirtual 108, 3) := by decide +kernel
theorem dX5_change_52 : decode cX5_change 52 = .ok (.ireturn, 1) := by decide +kernel
theorem dX5_go_0 : decode cX5_go 0 = .ok (.iload_n 1, 1) := by decide +kernel
theorem dX5_go_1 : decode cX5_go 1 = .ok (.i2l, 1) := by decide +kernel
theorem dX5_go_2 : decode cX5_go 2 = .ok (.lconst 1, 1) := by decide +kernel
theorem dX5_go_3 : decode cX5_go 3 = .ok (.ldc2_w 140, 3) := by decide +kernel
theorem dX5_go_6 : decode cX5_go 6 = .ok (.invokestatic 42, 3) := by decide +kernel
theorem dX5_go_9 : decode cX5_go 9 = .ok (.ifCond .ne 9, 3) := by decide +kernel
theorem dX5_go_12 : decode cX5_go 12 = .ok (.aload_n 0, 1) := by decide +kernel
theorem dX5_go_13 : decode cX5_go 13 = .ok (.iconst 0, 1) := by decide +kernel
theorem dX5_go_14 : decode cX5_go 14 = .ok (.invokevirtual 108, 3) := by decide +kernel
theorem dX5_go_17 : decode cX5_go 17 = .ok (.ireturn, 1) := by decide +kernel
theorem dX5_go_18 : decode cX5_go 18 = .ok (.aload_n 0, 1) := by decide +kernel
theorem dX5_go_19 : decode cX5_go 19 = .ok (.getfield 7, 3) := by decide +kernel
theorem dX5_go_22 : decode cX5_go 22 = .ok (.iconst 1, 1) := by decide +kernel
theorem dX5_go_23 : decode cX5_go 23 = .ok (.iaload, 1) := by decide +kernel
theorem dX5_go_24 : decode cX5_go 24 = .ok (.iload_n 1, 1) := by decide +kernel
theorem dX5_go_25 : decode cX5_go 25 = .ok (.iadd, 1) := by decide +kernel
theorem dX5_go_26 : decode cX5_go 26 = .ok (.ldc 91, 2) := by decide +kernel
theorem dX5_go_28 : decode cX5_go 28 = .ok (.if_icmp .le 9, 3) := by decide +kernel
theorem dX5_go_31 : decode cX5_go 31 = .ok (.aload_n 0, 1) := by decide +kernel
theorem dX5_go_32 : decode cX5_go 32 = .ok (.iconst 4, 1) := by decide +kernel
theorem dX5_go_33 : decode cX5_go 33 = .ok (.invokevirtual 108, 3) := by decide +kernel
theorem dX5_go_36 : decode cX5_go 36 = .ok (.ireturn, 1) := by decide +kernel
theorem dX5_go_37 : decode cX5_go 37 = .ok (.aload_n 0, 1) := by decide +kernel
theorem dX5_go_38 : decode cX5_go 38 = .ok (.iload_n 1, 1) := by decide +kernel
theorem dX5_go_39 : decode cX5_go 39 = .ok (.invokevirtual 142, 3) := by decide +kernel
theorem dX5_go_42 : decode cX5_go 42 = .ok (.aload_n 0, 1) := by decide +kernel
theorem dX5_go_43 : decode cX5_go 43 = .ok (.iconst 1, 1) := by decide +kernel
theorem dX5_go_44 : decode cX5_go 44 = .ok (.invokevirtual 146, 3) := by decide +kernel
theorem dX5_go_47 : decode cX5_go 47 = .ok (.ireturn, 1) := by decide +kernel
theorem dX5_now_0 : decode cX5_now 0 = .ok (.aload_n 0, 1) := by decide +kernel
theorem dX5_now_1 : decode cX5_now 1 = .ok (.aload_n 0, 1) := by decide +kernel
theorem dX5_now_2 : decode cX5_now 2 = .ok (.invokevirtual 65, 3) := by decide +kernel
theorem dX5_now_5 : decode cX5_now 5 = .ok (.invokevirtual 69, 3) := by decide +kernel
theorem dX5_now_8 : decode cX5_now 8 = .ok (.istore_n 2, 1) := by decide +kernel
theorem dX5_now_9 : decode cX5_now 9 = .ok (.aload_n 0, 1) := by decide +kernel
theorem dX5_now_10 : decode cX5_now 10 = .ok (.iload_n 2, 1) := by decide +kernel
theorem dX5_now_11 : decode cX5_now 11 = .ok (.invokevirtual 72, 3) := by decide +kernel
theorem dX5_now_14 : decode cX5_now 14 = .ok (.istore_n 3, 1) := by decide +kernel
theorem dX5_now_15 : decode cX5_now 15 = .ok (.iload_n 1, 1) := by decide +kernel
theorem dX5_now_16 : decode cX5_now 16 = .ok (.tableswitch 90 0 7 #[48, 55, 61, 66, 68, 70, 78, 84], 48) := by decide +kernel
theorem dX5_now_64 : decode cX5_now 64 = .ok (.aload_n 0, 1) := by decide +kernel
theorem dX5_now_65 : decode cX5_now 65 = .ok (.getfield 7, 3) := by decide +kernel
theorem dX5_now_68 : decode cX5_now 68 = .ok (.iconst 1, 1) := by decide +kernel
theorem dX5_now_69 : decode cX5_now 69 = .ok (.iaload, 1) := by decide +kernel
theorem dX5_now_70 : decode cX5_now 70 = .ok (.ireturn, 1) := by decide +kernel
theorem dX5_now_71 : decode cX5_now 71 = .ok (.aload_n 0, 1) := by decide +kernel
theorem dX5_now_72 : decode cX5_now 72 = .ok (.iconst 1, 1) := by decide +kernel
theorem dX5_now_73 : decode cX5_now 73 = .ok (.invokevirtual 146, 3) := by decide +kernel
theorem dX5_now_76 : decode cX5_now 76 = .ok (.ireturn, 1) := by decide +kernel
theorem dX5_now_77 : decode cX5_now 77 = .ok (.aload_n 0, 1) := by decide +kernel
theorem dX5_now_78 : decode cX5_now 78 = .ok (.invokevirtual 149, 3) := by decide +kernel
theorem dX5_now_81 : decode cX5_now 81 = .ok (.ireturn, 1) := by decide +kernel
theorem dX5_now_82 : decode cX5_now 82 = .ok (.iload_n 2, 1) := by decide +kernel
theorem dX5_now_83 : decode cX5_now 83 = .ok (.ireturn, 1) := by decide +kernel
theorem dX5_now_84 : decode cX5_now 84 = .ok (.iload_n 3, 1) := by decide +kernel
theorem dX5_now_85 : decode cX5_now 85 = .ok (.ireturn, 1) := by decide +kernel
theorem dX5_now_86 : decode cX5_now 86 = .ok (.aload_n 0, 1) := by decide +kernel
theorem dX5_now_87 : decode cX5_now 87 = .ok (.iload_n 2, 1) := by decide +kernel
theorem dX5_now_88 : decode cX5_now 88 = .ok (.iload_n 3, 1) := by decide +kernel
theorem dX5_now_89 : decode cX5_now 89 = .ok (.ior, 1) := by decide +kernel
theorem dX5_now_90 : decode cX5_now 90 = .ok (.invokevirtual 75, 3) := by decide +kernel
theorem dX5_now_93 : decode cX5_now 93 = .ok (.ireturn, 1) := by decide +kernel
theorem dX5_now_94 : decode cX5_now 94 = .ok (.aload_n 0, 1) := by decide +kernel
theorem dX5_now_95 : decode cX5_now 95 = .ok (.iconst 0, 1) := by decide +kernel
theorem dX5_now_96 : decode cX5_now 96 = .ok (.invokevirtual 62, 3) := by decide +kernel
theorem dX5_now_99 : decode cX5_now 99 = .ok (.ireturn, 1) := by decide +kernel
theorem dX5_now_100 : decode cX5_now 100 = .ok (.aload_n 0, 1) := by decide +kernel
theorem dX5_now_101 : decode cX5_now 101 = .ok (.iconst 4, 1) := by decide +kernel
theorem dX5_now_102 : decode cX5_now 102 = .ok (.invokevirtual 146, 3) := by decide +kernel
theorem dX5_now_105 : decode cX5_now 105 = .ok (.ireturn, 1) := by decide +kernel
theorem dX5_now_106 : decode cX5_now 106 = .ok (.aload_n 0, 1) := by decide +kernel
theorem dX5_now_107 : decode cX5_now 107 = .ok (.iconst 0, 1) := by decide +kernel
theorem dX5_now_108 : decode cX5_now 108 = .ok (.invokevirtual 108, 3) := by decide +kernel
theorem dX5_now_111 : decode cX5_now 111 = .ok (.ireturn, 1) := by decide +kernel
theorem dX5_behind_0 : decode cX5_behind 0 = .ok (.aload_n 0, 1) := by decide +kernel
theorem dX5_behind_1 : decode cX5_behind 1 = .ok (.iload_n 1, 1) := by decide +kernel
theorem dX5_behind_2 : decode cX5_behind 2 = .ok (.invokevirtual 142, 3) := by decide +kernel
theorem dX5_behind_5 : decode cX5_behind 5 = .ok (.aload_n 0, 1) := by decide +kernel
theorem dX5_behind_6 : decode cX5_behind 6 = .ok (.getfield 7, 3) := by decide +kernel
theorem dX5_behind_9 : decode cX5_behind 9 = .ok (.iload_n 2, 1) := by decide +kernel
theorem dX5_behind_10 : decode cX5_behind 10 = .ok (.iaload, 1) := by decide +kernel
theorem dX5_behind_11 : decode cX5_behind 11 = .ok (.istore_n 3, 1) := by decide +kernel
theorem dX5_behind_12 : decode cX5_behind 12 = .ok (.aload_n 0, 1) := by decide +kernel
theorem dX5_behind_13 : decode cX5_behind 13 = .ok (.getfield 16, 3) := by decide +kernel
theorem dX5_behind_16 : decode cX5_behind 16 = .ok (.aload_n 0, 1) := by decide +kernel
theorem dX5_behind_17 : decode cX5_behind 17 = .ok (.getfield 7, 3) := by decide +kernel
theorem dX5_behind_20 : decode cX5_behind 20 = .ok (.invokestatic 152, 3) := by decide +kernel
theorem dX5_behind_23 : decode cX5_behind 23 = .ok (.iload_n 3, 1) := by decide +kernel
theorem dX5_behind_24 : decode cX5_behind 24 = .ok (.ireturn, 1) := by decide +kernel
theorem dX5_ahead_0 : decode cX5_ahead 0 = .ok (.aload_n 0, 1) := by decide +kernel
theorem dX5_ahead_1 : decode cX5_ahead 1 = .ok (.iload_n 1, 1) := by decide +kernel
theorem dX5_ahead_2 : decode cX5_ahead 2 = .ok (.invokevirtual 125, 3) := by decide +kernel
theorem dX5_ahead_5 : decode cX5_ahead 5 = .ok (.ifCond .eq 30, 3) := by decide +kernel
theorem dX5_ahead_8 : decode cX5_ahead 8 = .ok (.iload_n 2, 1) := by decide +kernel
theorem dX5_ahead_9 : decode cX5_ahead 9 = .ok (.iconst 1, 1) := by decide +kernel
theorem dX5_ahead_10 : decode cX5_ahead 10 = .ok (.if_icmp .eq 13, 3) := by decide +kernel
theorem dX5_ahead_13 : decode cX5_ahead 13 = .ok (.iload_n 2, 1) := by decide +kernel
theorem dX5_ahead_14 : decode cX5_ahead 14 = .ok (.iconst 3, 1) := by decide +kernel
theorem dX5_ahead_15 : decode cX5_ahead 15 = .ok (.if_icmp .eq 8, 3) := by decide +kernel
theorem dX5_ahead_18 : decode cX5_ahead 18 = .ok (.iload_n 2, 1) := by decide +kernel
theorem dX5_ahead_19 : decode cX5_ahead 19 = .ok (.iconst 4, 1) := by decide +kernel
theorem dX5_ahead_20 : decode cX5_ahead 20 = .ok (.if_icmp .ne 15, 3) := by decide +kernel
theorem dX5_ahead_23 : decode cX5_ahead 23 = .ok (.iload_n 3, 1) := by decide +kernel
theorem dX5_ahead_24 : decode cX5_ahead 24 = .ok (.i2l, 1) := by decide +kernel
theorem dX5_ahead_25 : decode cX5_ahead 25 = .ok (.lconst 0, 1) := by decide +kernel
theorem dX5_ahead_26 : decode cX5_ahead 26 = .ok (.ldc2_w 156, 3) := by decide +kernel
theorem dX5_ahead_29 : decode cX5_ahead 29 = .ok (.invokestatic 42, 3) := by decide +kernel
theorem dX5_ahead_32 : decode cX5_ahead 32 = .ok (.ifCond .ne 9, 3) := by decide +kernel
theorem dX5_ahead_35 : decode cX5_ahead 35 = .ok (.aload_n 0, 1) := by decide +kernel
theorem dX5_ahead_36 : decode cX5_ahead 36 = .ok (.iconst 0, 1) := by decide +kernel
theorem dX5_ahead_37 : decode cX5_ahead 37 = .ok (.invokevirtual 108, 3) := by decide +kernel
theorem dX5_ahead_40 : decode cX5_ahead 40 = .ok (.ireturn, 1) := by decide +kernel
theorem dX5_ahead_41 : decode cX5_ahead 41 = .ok (.aload_n 0, 1) := by decide +kernel
theorem dX5_ahead_42 : decode cX5_ahead 42 = .ok (.getfield 7, 3) := by decide +kernel
theorem dX5_ahead_45 : decode cX5_ahead 45 = .ok (.aload_n 0, 1) := by decide +kernel
theorem dX5_ahead_46 : decode cX5_ahead 46 = .ok (.getfield 16, 3) := by decide +kernel
theorem dX5_ahead_49 : decode cX5_ahead 49 = .ok (.invokestatic 152, 3) := by decide +kernel
theorem dX5_ahead_52 : decode cX5_ahead 52 = .ok (.aload_n 0, 1) := by decide +kernel
theorem dX5_ahead_53 : decode cX5_ahead 53 = .ok (.iload_n 3, 1) := by decide +kernel
theorem dX5_ahead_54 : decode cX5_ahead 54 = .ok (.bipush 13, 2) := by decide +kernel
theorem dX5_ahead_56 : decode cX5_ahead 56 = .ok (.bipush 8, 2) := by decide +kernel
theorem dX5_ahead_58 : decode cX5_ahead 58 = .ok (.iload_n 2, 1) := by decide +kernel
theorem dX5_ahead_59 : decode cX5_ahead 59 = .ok (.imul, 1) := by decide +kernel
theorem dX5_ahead_60 : decode cX5_ahead 60 = .ok (.iadd, 1) := by decide +kernel
theorem dX5_ahead_61 : decode cX5_ahead 61 = .ok (.iload_n 1, 1) := by decide +kernel
theorem dX5_ahead_62 : decode cX5_ahead 62 = .ok (.iadd, 1) := by decide +kernel
theorem dX5_ahead_63 : decode cX5_ahead 63 = .ok (.invokevirtual 158, 3) := by decide +kernel
theorem dX5_ahead_66 : decode cX5_ahead 66 = .ok (.ireturn, 1) := by decide +kernel
theorem dX5_firstOf_0 : decode cX5_firstOf 0 = .ok (.aload_n 0, 1) := by decide +kernel
theorem dX5_firstOf_1 : decode cX5_firstOf 1 = .ok (.getfield 7, 3) := by decide +kernel
theorem dX5_firstOf_4 : decode cX5_firstOf 4 = .ok (.aload_n 0, 1) := by decide +kernel
theorem dX5_firstOf_5 : decode cX5_firstOf 5 = .ok (.getfield 16, 3) := by decide +kernel
theorem dX5_firstOf_8 : decode cX5_firstOf 8 = .ok (.invokestatic 152, 3) := by decide +kernel
theorem dX5_firstOf_11 : decode cX5_firstOf 11 = .ok (.iconst 0, 1) := by decide +kernel
theorem dX5_firstOf_12 : decode cX5_firstOf 12 = .ok (.istore 4, 2) := by decide +kernel
theorem dX5_firstOf_14 : decode cX5_firstOf 14 = .ok (.iload 4, 2) := by decide +kernel
theorem dX5_firstOf_16 : decode cX5_firstOf 16 = .ok (.sipush 200, 3) := by decide +kernel
theorem dX5_firstOf_19 : decode cX5_firstOf 19 = .ok (.if_icmp .ge 30, 3) := by decide +kernel
theorem dX5_firstOf_22 : decode cX5_firstOf 22 = .ok (.aload_n 0, 1) := by decide +kernel
theorem dX5_firstOf_23 : decode cX5_firstOf 23 = .ok (.getfield 7, 3) := by decide +kernel
theorem dX5_firstOf_26 : decode cX5_firstOf 26 = .ok (.iload_n 1, 1) := by decide +kernel
theorem dX5_firstOf_27 : decode cX5_firstOf 27 = .ok (.iaload, 1) := by decide +kernel
theorem dX5_firstOf_28 : decode cX5_firstOf 28 = .ok (.i2l, 1) := by decide +kernel
theorem dX5_firstOf_29 : decode cX5_firstOf 29 = .ok (.iload_n 2, 1) := by decide +kernel
theorem dX5_firstOf_30 : decode cX5_firstOf 30 = .ok (.i2l, 1) := by decide +kernel
theorem dX5_firstOf_31 : decode cX5_firstOf 31 = .ok (.iload_n 3, 1) := by decide +kernel
theorem dX5_firstOf_32 : decode cX5_firstOf 32 = .ok (.i2l, 1) := by decide +kernel
theorem dX5_firstOf_33 : decode cX5_firstOf 33 = .ok (.invokestatic 42, 3) := by decide +kernel
theorem dX5_firstOf_36 : decode cX5_firstOf 36 = .ok (.ifCond .ne 13, 3) := by decide +kernel
theorem dX5_firstOf_39 : decode cX5_firstOf 39 = .ok (.aload_n 0, 1) := by decide +kernel
theorem dX5_firstOf_40 : decode cX5_firstOf 40 = .ok (.invokevirtual 92, 3) := by decide +kernel
theorem dX5_firstOf_43 : decode cX5_firstOf 43 = .ok (.iinc 4 1, 3) := by decide +kernel
theorem dX5_firstOf_46 : decode cX5_firstOf 46 = .ok (.goto (-32), 3) := by decide +kernel
theorem dX5_firstOf_49 : decode cX5_firstOf 49 = .ok (.aload_n 0, 1) := by decide +kernel
theorem dX5_firstOf_50 : decode cX5_firstOf 50 = .ok (.getfield 7, 3) := by decide +kernel
theorem dX5_firstOf_53 : decode cX5_firstOf 53 = .ok (.iload_n 1, 1) := by decide +kernel
theorem dX5_firstOf_54 : decode cX5_firstOf 54 = .ok (.iaload, 1) := by decide +kernel
theorem dX5_firstOf_55 : decode cX5_firstOf 55 = .ok (.i2l, 1) := by decide +kernel
theorem dX5_firstOf_56 : decode cX5_firstOf 56 = .ok (.iload_n 2, 1) := by decide +kernel
theorem dX5_firstOf_57 : decode cX5_firstOf 57 = .ok (.i2l, 1) := by decide +kernel
theorem dX5_firstOf_58 : decode cX5_firstOf 58 = .ok (.iload_n 3, 1) := by decide +kernel
theorem dX5_firstOf_59 : decode cX5_firstOf 59 = .ok (.i2l, 1) := by decide +kernel
theorem dX5_firstOf_60 : decode cX5_firstOf 60 = .ok (.invokestatic 42, 3) := by decide +kernel
theorem dX5_firstOf_63 : decode cX5_firstOf 63 = .ok (.istore 5, 2) := by decide +kernel
theorem dX5_firstOf_65 : decode cX5_firstOf 65 = .ok (.aload_n 0, 1) := by decide +kernel
theorem dX5_firstOf_66 : decode cX5_firstOf 66 = .ok (.getfield 16, 3) := by decide +kernel
theorem dX5_firstOf_69 : decode cX5_firstOf 69 = .ok (.aload_n 0, 1) := by decide +kernel
theorem dX5_firstOf_70 : decode cX5_firstOf 70 = .ok (.getfield 7, 3) := by decide +kernel
theorem dX5_firstOf_73 : decode cX5_firstOf 73 = .ok (.invokestatic 152, 3) := by decide +kernel
theorem dX5_firstOf_76 : decode cX5_firstOf 76 = .ok (.iload 5, 2) := by decide +kernel
theorem dX5_firstOf_78 : decode cX5_firstOf 78 = .ok (.ifCond .eq 8, 3) := by decide +kernel
theorem dX5_firstOf_81 : decode cX5_firstOf 81 = .ok (.iload 4, 2) := by decide +kernel
theorem dX5_firstOf_83 : decode cX5_firstOf 83 = .ok (.goto 8, 3) := by decide +kernel
theorem dX5_firstOf_86 : decode cX5_firstOf 86 = .ok (.aload_n 0, 1) := by decide +kernel
theorem dX5_firstOf_87 : decode cX5_firstOf 87 = .ok (.iconst 3, 1) := by decide +kernel
theorem dX5_firstOf_88 : decode cX5_firstOf 88 = .ok (.invokevirtual 108, 3) := by decide +kernel
theorem dX5_firstOf_91 : decode cX5_firstOf 91 = .ok (.ireturn, 1) := by decide +kernel
theorem dX5_glad_0 : decode cX5_glad 0 = .ok (.aload_n 0, 1) := by decide +kernel
theorem dX5_glad_1 : decode cX5_glad 1 = .ok (.iload_n 1, 1) := by decide +kernel
theorem dX5_glad_2 : decode cX5_glad 2 = .ok (.invokevirtual 125, 3) := by decide +kernel
theorem dX5_glad_5 : decode cX5_glad 5 = .ok (.ifCond .eq 29, 3) := by decide +kernel
theorem dX5_glad_8 : decode cX5_glad 8 = .ok (.iload_n 2, 1) := by decide +kernel
theorem dX5_glad_9 : decode cX5_glad 9 = .ok (.i2l, 1) := by decide +kernel
theorem dX5_glad_10 : decode cX5_glad 10 = .ok (.lconst 0, 1) := by decide +kernel
theorem dX5_glad_11 : decode cX5_glad 11 = .ok (.ldc2_w 128, 3) := by decide +kernel
theorem dX5_glad_14 : decode cX5_glad 14 = .ok (.invokestatic 42, 3) := by decide +kernel
theorem dX5_glad_17 : decode cX5_glad 17 = .ok (.ifCond .eq 17, 3) := by decide +kernel
theorem dX5_glad_20 : decode cX5_glad 20 = .ok (.aload_n 0, 1) := by decide +kernel
theorem dX5_glad_21 : decode cX5_glad 21 = .ok (.bipush 21, 2) := by decide +kernel
theorem dX5_glad_23 : decode cX5_glad 23 = .ok (.iload_n 1, 1) := by decide +kernel
theorem dX5_glad_24 : decode cX5_glad 24 = .ok (.iadd, 1) := by decide +kernel
theorem dX5_glad_25 : decode cX5_glad 25 = .ok (.iload_n 2, 1) := by decide +kernel
theorem dX5_glad_26 : decode cX5_glad 26 = .ok (.bipush 99, 2) := by decide +kernel
theorem dX5_glad_28 : decode cX5_glad 28 = .ok (.invokevirtual 161, 3) := by decide +kernel
theorem dX5_glad_31 : decode cX5_glad 31 = .ok (.goto 8, 3) := by decide +kernel
theorem dX5_glad_34 : decode cX5_glad 34 = .ok (.aload_n 0, 1) := by decide +kernel
theorem dX5_glad_35 : decode cX5_glad 35 = .ok (.iconst 0, 1) := by decide +kernel
theorem dX5_glad_36 : decode cX5_glad 36 = .ok (.invokevirtual 108, 3) := by decide +kernel
theorem dX5_glad_39 : decode cX5_glad 39 = .ok (.ireturn, 1) := by decide +kernel
theorem dX5_sad_0 : decode cX5_sad 0 = .ok (.aload_n 0, 1) := by decide +kernel
theorem dX5_sad_1 : decode cX5_sad 1 = .ok (.iload_n 1, 1) := by decide +kernel
theorem dX5_sad_2 : decode cX5_sad 2 = .ok (.invokevirtual 125, 3) := by decide +kernel
theorem dX5_sad_5 : decode cX5_sad 5 = .ok (.ifCond .eq 28, 3) := by decide +kernel
theorem dX5_sad_8 : decode cX5_sad 8 = .ok (.iload_n 2, 1) := by decide +kernel
theorem dX5_sad_9 : decode cX5_sad 9 = .ok (.i2l, 1) := by decide +kernel
theorem dX5_sad_10 : decode cX5_sad 10 = .ok (.lconst 0, 1) := by decide +kernel
theorem dX5_sad_11 : decode cX5_sad 11 = .ok (.ldc2_w 128, 3) := by decide +kernel
theorem dX5_sad_14 : decode cX5_sad 14 = .ok (.invokestatic 42, 3) := by decide +kernel
theorem dX5_sad_17 : decode cX5_sad 17 = .ok (.ifCond .eq 16, 3) := by decide +kernel
theorem dX5_sad_20 : decode cX5_sad 20 = .ok (.aload_n 0, 1) := by decide +kernel
theorem dX5_sad_21 : decode cX5_sad 21 = .ok (.bipush 21, 2) := by decide +kernel
theorem dX5_sad_23 : decode cX5_sad 23 = .ok (.iload_n 1, 1) := by decide +kernel
theorem dX5_sad_24 : decode cX5_sad 24 = .ok (.iadd, 1) := by decide +kernel
theorem dX5_sad_25 : decode cX5_sad 25 = .ok (.iconst 0, 1) := by decide +kernel
theorem dX5_sad_26 : decode cX5_sad 26 = .ok (.iload_n 2, 1) := by decide +kernel
theorem dX5_sad_27 : decode cX5_sad 27 = .ok (.invokevirtual 161, 3) := by decide +kernel
theorem dX5_sad_30 : decode cX5_sad 30 = .ok (.goto 8, 3) := by decide +kernel
theorem dX5_sad_33 : decode cX5_sad 33 = .ok (.aload_n 0, 1) := by decide +kernel
theorem dX5_sad_34 : decode cX5_sad 34 = .ok (.iconst 0, 1) := by decide +kernel
theorem dX5_sad_35 : decode cX5_sad 35 = .ok (.invokevirtual 108, 3) := by decide +kernel
theorem dX5_sad_38 : decode cX5_sad 38 = .ok (.ireturn, 1) := by decide +kernel
theorem dX5_when_0 : decode cX5_when 0 = .ok (.aload_n 0, 1) := by decide +kernel
theorem dX5_when_1 : decode cX5_when 1 = .ok (.iload_n 1, 1) := by decide +kernel
theorem dX5_when_2 : decode cX5_when 2 = .ok (.invokevirtual 125, 3) := by decide +kernel
theorem dX5_when_5 : decode cX5_when 5 = .ok (.ifCond .eq 30, 3) := by decide +kernel
theorem dX5_when_8 : decode cX5_when 8 = .ok (.iload_n 2, 1) := by decide +kernel
theorem dX5_when_9 : decode cX5_when 9 = .ok (.i2l, 1) := by decide +kernel
theorem dX5_when_10 : decode cX5_when 10 = .ok (.lconst 0, 1) := by decide +kernel
theorem dX5_when_11 : decode cX5_when 11 = .ok (.ldc2_w 132, 3) := by decide +kernel
theorem dX5_when_14 : decode cX5_when 14 = .ok (.invokestatic 42, 3) := by decide +kernel
theorem dX5_when_17 : decode cX5_when 17 = .ok (.ifCond .eq 18, 3) := by decide +kernel
theorem dX5_when_20 : decode cX5_when 20 = .ok (.aload_n 0, 1) := by decide +kernel
theorem dX5_when_21 : decode cX5_when 21 = .ok (.bipush 45, 2) := by decide +kernel
theorem dX5_when_23 : decode cX5_when 23 = .ok (.iload_n 1, 1) := by decide +kernel
theorem dX5_when_24 : decode cX5_when 24 = .ok (.iadd, 1) := by decide +kernel
theorem dX5_when_25 : decode cX5_when 25 = .ok (.iload_n 2, 1) := by decide +kernel
theorem dX5_when_26 : decode cX5_when 26 = .ok (.sipush 9999, 3) := by decide +kernel
theorem dX5_when_29 : decode cX5_when 29 = .ok (.invokevirtual 161, 3) := by decide +kernel
theorem dX5_when_32 : decode cX5_when 32 = .ok (.goto 8, 3) := by decide +kernel
theorem dX5_when_35 : decode cX5_when 35 = .ok (.aload_n 0, 1) := by decide +kernel
theorem dX5_when_36 : decode cX5_when 36 = .ok (.iconst 0, 1) := by decide +kernel
theorem dX5_when_37 : decode cX5_when 37 = .ok (.invokevirtual 108, 3) := by decide +kernel
theorem dX5_when_40 : decode cX5_when 40 = .ok (.ireturn, 1) := by decide +kernel
theorem dX5_areAll_0 : decode cX5_areAll 0 = .ok (.aload_n 0, 1) := by decide +kernel
theorem dX5_areAll_1 : decode cX5_areAll 1 = .ok (.invokevirtual 149, 3) := by decide +kernel
theorem dX5_areAll_4 : decode cX5_areAll 4 = .ok (.iconst 1, 1) := by decide +kernel
theorem dX5_areAll_5 : decode cX5_areAll 5 = .ok (.aload_n 0, 1) := by decide +kernel
theorem dX5_areAll_6 : decode cX5_areAll 6 = .ok (.getfield 7, 3) := by decide +kernel
theorem dX5_areAll_9 : decode cX5_areAll 9 = .ok (.iconst 0, 1) := by decide +kernel
theorem dX5_areAll_10 : decode cX5_areAll 10 = .ok (.iaload, 1) := by decide +kernel
theorem dX5_areAll_11 : decode cX5_areAll 11 = .ok (.ishl, 1) := by decide +kernel
theorem dX5_areAll_12 : decode cX5_areAll 12 = .ok (.iconst 1, 1) := by decide +kernel
theorem dX5_areAll_13 : decode cX5_areAll 13 = .ok (.isub, 1) := by decide +kernel
theorem dX5_areAll_14 : decode cX5_areAll 14 = .ok (.if_icmp .ne 7, 3) := by decide +kernel
theorem dX5_areAll_17 : decode cX5_areAll 17 = .ok (.iconst 1, 1) := by decide +kernel
theorem dX5_areAll_18 : decode cX5_areAll 18 = .ok (.goto 4, 3) := by decide +kernel
theorem dX5_areAll_21 : decode cX5_areAll 21 = .ok (.iconst 0, 1) := by decide +kernel
theorem dX5_areAll_22 : decode cX5_areAll 22 = .ok (.ireturn, 1) := by decide +kernel
theorem dX5_well_0 : decode cX5_well 0 = .ok (.aload_n 0, 1) := by decide +kernel
theorem dX5_well_1 : decode cX5_well 1 = .ok (.getfield 7, 3) := by decide +kernel
theorem dX5_well_4 : decode cX5_well 4 = .ok (.aload_n 0, 1) := by decide +kernel
theorem dX5_well_5 : decode cX5_well 5 = .ok (.getfield 16, 3) := by decide +kernel
theorem dX5_well_8 : decode cX5_well 8 = .ok (.invokestatic 152, 3) := by decide +kernel
theorem dX5_well_11 : decode cX5_well 11 = .ok (.iconst 0, 1) := by decide +kernel
theorem dX5_well_12 : decode cX5_well 12 = .ok (.istore_n 1, 1) := by decide +kernel
theorem dX5_well_13 : decode cX5_well 13 = .ok (.iload_n 1, 1) := by decide +kernel
theorem dX5_well_14 : decode cX5_well 14 = .ok (.sipush 200, 3) := by decide +kernel
theorem dX5_well_17 : decode cX5_well 17 = .ok (.if_icmp .ge 20, 3) := by decide +kernel
theorem dX5_well_20 : decode cX5_well 20 = .ok (.aload_n 0, 1) := by decide +kernel
theorem dX5_well_21 : decode cX5_well 21 = .ok (.invokevirtual 164, 3) := by decide +kernel
theorem dX5_well_24 : decode cX5_well 24 = .ok (.ifCond .ne 13, 3) := by decide +kernel
theorem dX5_well_27 : decode cX5_well 27 = .ok (.aload_n 0, 1) := by decide +kernel
theorem dX5_well_28 : decode cX5_well 28 = .ok (.invokevirtual 92, 3) := by decide +kernel
theorem dX5_well_31 : decode cX5_well 31 = .ok (.iinc 1 1, 3) := by decide +kernel
theorem dX5_well_34 : decode cX5_well 34 = .ok (.goto (-21), 3) := by decide +kernel
theorem dX5_well_37 : decode cX5_well 37 = .ok (.aload_n 0, 1) := by decide +kernel
theorem dX5_well_38 : decode cX5_well 38 = .ok (.invokevirtual 164, 3) := by decide +kernel
theorem dX5_well_41 : decode cX5_well 41 = .ok (.istore_n 2, 1) := by decide +kernel
theorem dX5_well_42 : decode cX5_well 42 = .ok (.aload_n 0, 1) := by decide +kernel
theorem dX5_well_43 : decode cX5_well 43 = .ok (.getfield 16, 3) := by decide +kernel
theorem dX5_well_46 : decode cX5_well 46 = .ok (.aload_n 0, 1) := by decide +kernel
theorem dX5_well_47 : decode cX5_well 47 = .ok (.getfield 7, 3) := by decide +kernel
theorem dX5_well_50 : decode cX5_well 50 = .ok (.invokestatic 152, 3) := by decide +kernel
theorem dX5_well_53 : decode cX5_well 53 = .ok (.iload_n 2, 1) := by decide +kernel
theorem dX5_well_54 : decode cX5_well 54 = .ok (.ifCond .eq 7, 3) := by decide +kernel
theorem dX5_well_57 : decode cX5_well 57 = .ok (.iload_n 1, 1) := by decide +kernel
theorem dX5_well_58 : decode cX5_well 58 = .ok (.goto 8, 3) := by decide +kernel
theorem dX5_well_61 : decode cX5_well 61 = .ok (.aload_n 0, 1) := by decide +kernel
theorem dX5_well_62 : decode cX5_well 62 = .ok (.iconst 3, 1) := by decide +kernel
theorem dX5_well_63 : decode cX5_well 63 = .ok (.invokevirtual 108, 3) := by decide +kernel
theorem dX5_well_66 : decode cX5_well 66 = .ok (.ireturn, 1) := by decide +kernel
theorem dX5_isShort_0 : decode cX5_isShort 0 = .ok (.iload_n 0, 1) := by decide +kernel
theorem dX5_isShort_1 : decode cX5_isShort 1 = .ok (.i2l, 1) := by decide +kernel
theorem dX5_isShort_2 : decode cX5_isShort 2 = .ok (.lconst 0, 1) := by decide +kernel
theorem dX5_isShort_3 : decode cX5_isShort 3 = .ok (.ldc2_w 168, 3) := by decide +kernel
theorem dX5_isShort_6 : decode cX5_isShort 6 = .ok (.invokestatic 42, 3) := by decide +kernel
theorem dX5_isShort_9 : decode cX5_isShort 9 = .ok (.ireturn, 1) := by decide +kernel
theorem dX5_longFor_0 : decode cX5_longFor 0 = .ok (.iload_n 1, 1) := by decide +kernel
theorem dX5_longFor_1 : decode cX5_longFor 1 = .ok (.invokestatic 170, 3) := by decide +kernel
theorem dX5_longFor_4 : decode cX5_longFor 4 = .ok (.ifCond .ne 9, 3) := by decide +kernel
theorem dX5_longFor_7 : decode cX5_longFor 7 = .ok (.aload_n 0, 1) := by decide +kernel
theorem dX5_longFor_8 : decode cX5_longFor 8 = .ok (.iconst 0, 1) := by decide +kernel
theorem dX5_longFor_9 : decode cX5_longFor 9 = .ok (.invokevirtual 108, 3) := by decide +kernel
theorem dX5_longFor_12 : decode cX5_longFor 12 = .ok (.ireturn, 1) := by decide +kernel
theorem dX5_longFor_13 : decode cX5_longFor 13 = .ok (.aload_n 0, 1) := by decide +kernel
theorem dX5_longFor_14 : decode cX5_longFor 14 = .ok (.getfield 7, 3) := by decide +kernel
theorem dX5_longFor_17 : decode cX5_longFor 17 = .ok (.aload_n 0, 1) := by decide +kernel
theorem dX5_longFor_18 : decode cX5_longFor 18 = .ok (.getfield 16, 3) := by decide +kernel
theorem dX5_longFor_21 : decode cX5_longFor 21 = .ok (.invokestatic 152, 3) := by decide +kernel
theorem dX5_longFor_24 : decode cX5_longFor 24 = .ok (.iconst 0, 1) := by decide +kernel
theorem dX5_longFor_25 : decode cX5_longFor 25 = .ok (.istore_n 2, 1) := by decide +kernel
theorem dX5_longFor_26 : decode cX5_longFor 26 = .ok (.iconst (-1), 1) := by decide +kernel
theorem dX5_longFor_27 : decode cX5_longFor 27 = .ok (.istore_n 3, 1) := by decide +kernel
theorem dX5_longFor_28 : decode cX5_longFor 28 = .ok (.iconst 1, 1) := by decide +kernel
theorem dX5_longFor_29 : decode cX5_longFor 29 = .ok (.istore 4, 2) := by decide +kernel
theorem dX5_longFor_31 : decode cX5_longFor 31 = .ok (.iload 4, 2) := by decide +kernel
theorem dX5_longFor_33 : decode cX5_longFor 33 = .ok (.bipush 13, 2) := by decide +kernel
theorem dX5_longFor_35 : decode cX5_longFor 35 = .ok (.if_icmp .ge 53, 3) := by decide +kernel
theorem dX5_longFor_38 : decode cX5_longFor 38 = .ok (.aload_n 0, 1) := by decide +kernel
theorem dX5_longFor_39 : decode cX5_longFor 39 = .ok (.getfield 7, 3) := by decide +kernel
theorem dX5_longFor_42 : decode cX5_longFor 42 = .ok (.bipush 6, 2) := by decide +kernel
theorem dX5_longFor_44 : decode cX5_longFor 44 = .ok (.iload 4, 2) := by decide +kernel
theorem dX5_longFor_46 : decode cX5_longFor 46 = .ok (.iastore, 1) := by decide +kernel
theorem dX5_longFor_47 : decode cX5_longFor 47 = .ok (.aload_n 0, 1) := by decide +kernel
theorem dX5_longFor_48 : decode cX5_longFor 48 = .ok (.iload_n 1, 1) := by decide +kernel
theorem dX5_longFor_49 : decode cX5_longFor 49 = .ok (.invokevirtual 142, 3) := by decide +kernel
theorem dX5_longFor_52 : decode cX5_longFor 52 = .ok (.aload_n 0, 1) := by decide +kernel
theorem dX5_longFor_53 : decode cX5_longFor 53 = .ok (.iconst 1, 1) := by decide +kernel
theorem dX5_longFor_54 : decode cX5_longFor 54 = .ok (.invokevirtual 146, 3) := by decide +kernel
theorem dX5_longFor_57 : decode cX5_longFor 57 = .ok (.istore 5, 2) := by decide +kernel
theorem dX5_longFor_59 : decode cX5_longFor 59 = .ok (.aload_n 0, 1) := by decide +kernel
theorem dX5_longFor_60 : decode cX5_longFor 60 = .ok (.getfield 16, 3) := by decide +kernel
theorem dX5_longFor_63 : decode cX5_longFor 63 = .ok (.aload_n 0, 1) := by decide +kernel
theorem dX5_longFor_64 : decode cX5_longFor 64 = .ok (.getfield 7, 3) := by decide +kernel
theorem dX5_longFor_67 : decode cX5_longFor 67 = .ok (.invokestatic 152, 3) := by decide +kernel
theorem dX5_longFor_70 : decode cX5_longFor 70 = .ok (.iload 5, 2) := by decide +kernel
theorem dX5_longFor_72 : decode cX5_longFor 72 = .ok (.iload_n 3, 1) := by decide +kernel
theorem dX5_longFor_73 : decode cX5_longFor 73 = .ok (.if_icmp .le 9, 3) := by decide +kernel
theorem dX5_longFor_76 : decode cX5_longFor 76 = .ok (.iload 4, 2) := by decide +kernel
theorem dX5_longFor_78 : decode cX5_longFor 78 = .ok (.istore_n 2, 1) := by decide +kernel
theorem dX5_longFor_79 : decode cX5_longFor 79 = .ok (.iload 5, 2) := by decide +kernel
theorem dX5_longFor_81 : decode cX5_longFor 81 = .ok (.istore_n 3, 1) := by decide +kernel
theorem dX5_longFor_82 : decode cX5_longFor 82 = .ok (.iinc 4 1, 3) := by decide +kernel
theorem dX5_longFor_85 : decode cX5_longFor 85 = .ok (.goto (-54), 3) := by decide +kernel
theorem dX5_longFor_88 : decode cX5_longFor 88 = .ok (.iload_n 2, 1) := by decide +kernel
theorem dX5_longFor_89 : decode cX5_longFor 89 = .ok (.ireturn, 1) := by decide +kernel
theorem dX5_chairsFor_0 : decode cX5_chairsFor 0 = .ok (.iload_n 1, 1) := by decide +kernel
theorem dX5_chairsFor_1 : decode cX5_chairsFor 1 = .ok (.i2l, 1) := by decide +kernel
theorem dX5_chairsFor_2 : decode cX5_chairsFor 2 = .ok (.lconst 0, 1) := by decide +kernel
theorem dX5_chairsFor_3 : decode cX5_chairsFor 3 = .ok (.ldc2_w 132, 3) := by decide +kernel
theorem dX5_chairsFor_6 : decode cX5_chairsFor 6 = .ok (.invokestatic 42, 3) := by decide +kernel
theorem dX5_chairsFor_9 : decode cX5_chairsFor 9 = .ok (.ifCond .eq 10, 3) := by decide +kernel
theorem dX5_chairsFor_12 : decode cX5_chairsFor 12 = .ok (.iload_n 2, 1) := by decide +kernel
theorem dX5_chairsFor_13 : decode cX5_chairsFor 13 = .ok (.invokestatic 170, 3) := by decide +kernel
theorem dX5_chairsFor_16 : decode cX5_chairsFor 16 = .ok (.ifCond .ne 9, 3) := by decide +kernel
theorem dX5_chairsFor_19 : decode cX5_chairsFor 19 = .ok (.aload_n 0, 1) := by decide +kernel
theorem dX5_chairsFor_20 : decode cX5_chairsFor 20 = .ok (.iconst 0, 1) := by decide +kernel
theorem dX5_chairsFor_21 : decode cX5_chairsFor 21 = .ok (.invokevirtual 108, 3) := by decide +kernel
theorem dX5_chairsFor_24 : decode cX5_chairsFor 24 = .ok (.ireturn, 1) := by decide +kernel
theorem dX5_chairsFor_25 : decode cX5_chairsFor 25 = .ok (.aload_n 0, 1) := by decide +kernel
theorem dX5_chairsFor_26 : decode cX5_chairsFor 26 = .ok (.getfield 7, 3) := by decide +kernel
theorem dX5_chairsFor_29 : decode cX5_chairsFor 29 = .ok (.aload_n 0, 1) := by decide +kernel
theorem dX5_chairsFor_30 : decode cX5_chairsFor 30 = .ok (.getfield 16, 3) := by decide +kernel
theorem dX5_chairsFor_33 : decode cX5_chairsFor 33 = .ok (.invokestatic 152, 3) := by decide +kernel
theorem dX5_chairsFor_36 : decode cX5_chairsFor 36 = .ok (.iconst 0, 1) := by decide +kernel
theorem dX5_chairsFor_37 : decode cX5_chairsFor 37 = .ok (.istore_n 3, 1) := by decide +kernel
theorem dX5_chairsFor_38 : decode cX5_chairsFor 38 = .ok (.iload_n 3, 1) := by decide +kernel
theorem dX5_chairsFor_39 : decode cX5_chairsFor 39 = .ok (.bipush 21, 2) := by decide +kernel
theorem dX5_chairsFor_41 : decode cX5_chairsFor 41 = .ok (.if_icmp .ge 47, 3) := by decide +kernel
theorem dX5_chairsFor_44 : decode cX5_chairsFor 44 = .ok (.aload_n 0, 1) := by decide +kernel
theorem dX5_chairsFor_45 : decode cX5_chairsFor 45 = .ok (.getfield 7, 3) := by decide +kernel
theorem dX5_chairsFor_48 : decode cX5_chairsFor 48 = .ok (.iconst 3, 1) := by decide +kernel
theorem dX5_chairsFor_49 : decode cX5_chairsFor 49 = .ok (.iload_n 3, 1) := by decide +kernel
theorem dX5_chairsFor_50 : decode cX5_chairsFor 50 = .ok (.iastore, 1) := by decide +kernel
theorem dX5_chairsFor_51 : decode cX5_chairsFor 51 = .ok (.aload_n 0, 1) := by decide +kernel
theorem dX5_chairsFor_52 : decode cX5_chairsFor 52 = .ok (.iload_n 2, 1) := by decide +kernel
theorem dX5_chairsFor_53 : decode cX5_chairsFor 53 = .ok (.invokevirtual 142, 3) := by decide +kernel
theorem dX5_chairsFor_56 : decode cX5_chairsFor 56 = .ok (.aload_n 0, 1) := by decide +kernel
theorem dX5_chairsFor_57 : decode cX5_chairsFor 57 = .ok (.iconst 4, 1) := by decide +kernel
theorem dX5_chairsFor_58 : decode cX5_chairsFor 58 = .ok (.invokevirtual 146, 3) := by decide +kernel
theorem dX5_chairsFor_61 : decode cX5_chairsFor 61 = .ok (.istore 4, 2) := by decide +kernel
theorem dX5_chairsFor_63 : decode cX5_chairsFor 63 = .ok (.aload_n 0, 1) := by decide +kernel
theorem dX5_chairsFor_64 : decode cX5_chairsFor 64 = .ok (.getfield 16, 3) := by decide +kernel
theorem dX5_chairsFor_67 : decode cX5_chairsFor 67 = .ok (.aload_n 0, 1) := by decide +kernel
theorem dX5_chairsFor_68 : decode cX5_chairsFor 68 = .ok (.getfield 7, 3) := by decide +kernel
theorem dX5_chairsFor_71 : decode cX5_chairsFor 71 = .ok (.invokestatic 152, 3) := by decide +kernel
theorem dX5_chairsFor_74 : decode cX5_chairsFor 74 = .ok (.iload 4, 2) := by decide +kernel
theorem dX5_chairsFor_76 : decode cX5_chairsFor 76 = .ok (.iload_n 1, 1) := by decide +kernel
theorem dX5_chairsFor_77 : decode cX5_chairsFor 77 = .ok (.if_icmp .lt 5, 3) := by decide +kernel
theorem dX5_chairsFor_80 : decode cX5_chairsFor 80 = .ok (.iload_n 3, 1) := by decide +kernel
theorem dX5_chairsFor_81 : decode cX5_chairsFor 81 = .ok (.ireturn, 1) := by decide +kernel
theorem dX5_chairsFor_82 : decode cX5_chairsFor 82 = .ok (.iinc 3 1, 3) := by decide +kernel
theorem dX5_chairsFor_85 : decode cX5_chairsFor 85 = .ok (.goto (-47), 3) := by decide +kernel
theorem dX5_chairsFor_88 : decode cX5_chairsFor 88 = .ok (.aload_n 0, 1) := by decide +kernel
theorem dX5_chairsFor_89 : decode cX5_chairsFor 89 = .ok (.iconst 3, 1) := by decide +kernel
theorem dX5_chairsFor_90 : decode cX5_chairsFor 90 = .ok (.invokevirtual 108, 3) := by decide +kernel
theorem dX5_chairsFor_93 : decode cX5_chairsFor 93 = .ok (.ireturn, 1) := by decide +kernel
theorem dX5_volunteersFor_0 : decode cX5_volunteersFor 0 = .ok (.iload_n 1, 1) := by decide +kernel
theorem dX5_volunteersFor_1 : decode cX5_volunteersFor 1 = .ok (.i2l, 1) := by decide +kernel
theorem dX5_volunteersFor_2 : decode cX5_volunteersFor 2 = .ok (.lconst 0, 1) := by decide +kernel
theorem dX5_volunteersFor_3 : decode cX5_volunteersFor 3 = .ok (.ldc2_w 128, 3) := by decide +kernel
theorem dX5_volunteersFor_6 : decode cX5_volunteersFor 6 = .ok (.invokestatic 42, 3) := by decide +kernel
theorem dX5_volunteersFor_9 : decode cX5_volunteersFor 9 = .ok (.ifCond .eq 10, 3) := by decide +kernel
theorem dX5_volunteersFor_12 : decode cX5_volunteersFor 12 = .ok (.iload_n 2, 1) := by decide +kernel
theorem dX5_volunteersFor_13 : decode cX5_volunteersFor 13 = .ok (.invokestatic 170, 3) := by decide +kernel
theorem dX5_volunteersFor_16 : decode cX5_volunteersFor 16 = .ok (.ifCond .ne 9, 3) := by decide +kernel
theorem dX5_volunteersFor_19 : decode cX5_volunteersFor 19 = .ok (.aload_n 0, 1) := by decide +kernel
theorem dX5_volunteersFor_20 : decode cX5_volunteersFor 20 = .ok (.iconst 0, 1) := by decide +kernel
theorem dX5_volunteersFor_21 : decode cX5_volunteersFor 21 = .ok (.invokevirtual 108, 3) := by decide +kernel
theorem dX5_volunteersFor_24 : decode cX5_volunteersFor 24 = .ok (.ireturn, 1) := by decide +kernel
theorem dX5_volunteersFor_25 : decode cX5_volunteersFor 25 = .ok (.aload_n 0, 1) := by decide +kernel
theorem dX5_volunteersFor_26 : decode cX5_volunteersFor 26 = .ok (.getfield 7, 3) := by decide +kernel
theorem dX5_volunteersFor_29 : decode cX5_volunteersFor 29 = .ok (.aload_n 0, 1) := by decide +kernel
theorem dX5_volunteersFor_30 : decode cX5_volunteersFor 30 = .ok (.getfield 16, 3) := by decide +kernel
theorem dX5_volunteersFor_33 : decode cX5_volunteersFor 33 = .ok (.invokestatic 152, 3) := by decide +kernel
theorem dX5_volunteersFor_36 : decode cX5_volunteersFor 36 = .ok (.iconst 0, 1) := by decide +kernel
theorem dX5_volunteersFor_37 : decode cX5_volunteersFor 37 = .ok (.istore_n 3, 1) := by decide +kernel
theorem dX5_volunteersFor_38 : decode cX5_volunteersFor 38 = .ok (.iload_n 3, 1) := by decide +kernel
theorem dX5_volunteersFor_39 : decode cX5_volunteersFor 39 = .ok (.bipush 9, 2) := by decide +kernel
theorem dX5_volunteersFor_41 : decode cX5_volunteersFor 41 = .ok (.if_icmp .ge 85, 3) := by decide +kernel
theorem dX5_volunteersFor_44 : decode cX5_volunteersFor 44 = .ok (.aload_n 0, 1) := by decide +kernel
theorem dX5_volunteersFor_45 : decode cX5_volunteersFor 45 = .ok (.getfield 7, 3) := by decide +kernel
theorem dX5_volunteersFor_48 : decode cX5_volunteersFor 48 = .ok (.iconst 5, 1) := by decide +kernel
theorem dX5_volunteersFor_49 : decode cX5_volunteersFor 49 = .ok (.iload_n 3, 1) := by decide +kernel
theorem dX5_volunteersFor_50 : decode cX5_volunteersFor 50 = .ok (.iastore, 1) := by decide +kernel
theorem dX5_volunteersFor_51 : decode cX5_volunteersFor 51 = .ok (.aload_n 0, 1) := by decide +kernel
theorem dX5_volunteersFor_52 : decode cX5_volunteersFor 52 = .ok (.iload_n 2, 1) := by decide +kernel
theorem dX5_volunteersFor_53 : decode cX5_volunteersFor 53 = .ok (.invokevirtual 142, 3) := by decide +kernel
theorem dX5_volunteersFor_56 : decode cX5_volunteersFor 56 = .ok (.iconst 1, 1) := by decide +kernel
theorem dX5_volunteersFor_57 : decode cX5_volunteersFor 57 = .ok (.istore 4, 2) := by decide +kernel
theorem dX5_volunteersFor_59 : decode cX5_volunteersFor 59 = .ok (.iconst 0, 1) := by decide +kernel
theorem dX5_volunteersFor_60 : decode cX5_volunteersFor 60 = .ok (.istore 5, 2) := by decide +kernel
theorem dX5_volunteersFor_62 : decode cX5_volunteersFor 62 = .ok (.iload 5, 2) := by decide +kernel
theorem dX5_volunteersFor_64 : decode cX5_volunteersFor 64 = .ok (.aload_n 0, 1) := by decide +kernel
theorem dX5_volunteersFor_65 : decode cX5_volunteersFor 65 = .ok (.getfield 7, 3) := by decide +kernel
theorem dX5_volunteersFor_68 : decode cX5_volunteersFor 68 = .ok (.iconst 0, 1) := by decide +kernel
theorem dX5_volunteersFor_69 : decode cX5_volunteersFor 69 = .ok (.iaload, 1) := by decide +kernel
theorem dX5_volunteersFor_70 : decode cX5_volunteersFor 70 = .ok (.if_icmp .ge 32, 3) := by decide +kernel
theorem dX5_volunteersFor_73 : decode cX5_volunteersFor 73 = .ok (.iload 4, 2) := by decide +kernel
theorem dX5_volunteersFor_75 : decode cX5_volunteersFor 75 = .ok (.ifCond .eq 18, 3) := by decide +kernel
theorem dX5_volunteersFor_78 : decode cX5_volunteersFor 78 = .ok (.aload_n 0, 1) := by decide +kernel
theorem dX5_volunteersFor_79 : decode cX5_volunteersFor 79 = .ok (.iload 5, 2) := by decide +kernel
theorem dX5_volunteersFor_81 : decode cX5_volunteersFor 81 = .ok (.iconst 1, 1) := by decide +kernel
theorem dX5_volunteersFor_82 : decode cX5_volunteersFor 82 = .ok (.invokevirtual 46, 3) := by decide +kernel
theorem dX5_volunteersFor_85 : decode cX5_volunteersFor 85 = .ok (.iload_n 1, 1) := by decide +kernel
theorem dX5_volunteersFor_86 : decode cX5_volunteersFor 86 = .ok (.if_icmp .lt 7, 3) := by decide +kernel
theorem dX5_volunteersFor_89 : decode cX5_volunteersFor 89 = .ok (.iconst 1, 1) := by decide +kernel
theorem dX5_volunteersFor_90 : decode cX5_volunteersFor 90 = .ok (.goto 4, 3) := by decide +kernel
theorem dX5_volunteersFor_93 : decode cX5_volunteersFor 93 = .ok (.iconst 0, 1) := by decide +kernel
theorem dX5_volunteersFor_94 : decode cX5_volunteersFor 94 = .ok (.istore 4, 2) := by decide +kernel
theorem dX5_volunteersFor_96 : decode cX5_volunteersFor 96 = .ok (.iinc 5 1, 3) := by decide +kernel
theorem dX5_volunteersFor_99 : decode cX5_volunteersFor 99 = .ok (.goto (-37), 3) := by decide +kernel
theorem dX5_volunteersFor_102 : decode cX5_volunteersFor 102 = .ok (.aload_n 0, 1) := by decide +kernel
theorem dX5_volunteersFor_103 : decode cX5_volunteersFor 103 = .ok (.getfield 16, 3) := by decide +kernel
theorem dX5_volunteersFor_106 : decode cX5_volunteersFor 106 = .ok (.aload_n 0, 1) := by decide +kernel
theorem dX5_volunteersFor_107 : decode cX5_volunteersFor 107 = .ok (.getfield 7, 3) := by decide +kernel
theorem dX5_volunteersFor_110 : decode cX5_volunteersFor 110 = .ok (.invokestatic 152, 3) := by decide +kernel
theorem dX5_volunteersFor_113 : decode cX5_volunteersFor 113 = .ok (.iload 4, 2) := by decide +kernel
theorem dX5_volunteersFor_115 : decode cX5_volunteersFor 115 = .ok (.ifCond .eq 5, 3) := by decide +kernel
theorem dX5_volunteersFor_118 : decode cX5_volunteersFor 118 = .ok (.iload_n 3, 1) := by decide +kernel
theorem dX5_volunteersFor_119 : decode cX5_volunteersFor 119 = .ok (.ireturn, 1) := by decide +kernel
theorem dX5_volunteersFor_120 : decode cX5_volunteersFor 120 = .ok (.iinc 3 1, 3) := by decide +kernel
theorem dX5_volunteersFor_123 : decode cX5_volunteersFor 123 = .ok (.goto (-85), 3) := by decide +kernel
theorem dX5_volunteersFor_126 : decode cX5_volunteersFor 126 = .ok (.aload_n 0, 1) := by decide +kernel
theorem dX5_volunteersFor_127 : decode cX5_volunteersFor 127 = .ok (.iconst 3, 1) := by decide +kernel
theorem dX5_volunteersFor_128 : decode cX5_volunteersFor 128 = .ok (.invokevirtual 108, 3) := by decide +kernel
theorem dX5_volunteersFor_131 : decode cX5_volunteersFor 131 = .ok (.ireturn, 1) := by decide +kernel
theorem dX5_comeOn_0 : decode cX5_comeOn 0 = .ok (.aload_n 0, 1) := by decide +kernel
theorem dX5_comeOn_1 : decode cX5_comeOn 1 = .ok (.iload_n 1, 1) := by decide +kernel
theorem dX5_comeOn_2 : decode cX5_comeOn 2 = .ok (.invokevirtual 125, 3) := by decide +kernel
theorem dX5_comeOn_5 : decode cX5_comeOn 5 = .ok (.ifCond .eq 10, 3) := by decide +kernel
theorem dX5_comeOn_8 : decode cX5_comeOn 8 = .ok (.iload_n 2, 1) := by decide +kernel
theorem dX5_comeOn_9 : decode cX5_comeOn 9 = .ok (.invokestatic 170, 3) := by decide +kernel
theorem dX5_comeOn_12 : decode cX5_comeOn 12 = .ok (.ifCond .ne 9, 3) := by decide +kernel
theorem dX5_comeOn_15 : decode cX5_comeOn 15 = .ok (.aload_n 0, 1) := by decide +kernel
theorem dX5_comeOn_16 : decode cX5_comeOn 16 = .ok (.iconst 0, 1) := by decide +kernel
theorem dX5_comeOn_17 : decode cX5_comeOn 17 = .ok (.invokevirtual 108, 3) := by decide +kernel
theorem dX5_comeOn_20 : decode cX5_comeOn 20 = .ok (.ireturn, 1) := by decide +kernel
theorem dX5_comeOn_21 : decode cX5_comeOn 21 = .ok (.aload_n 0, 1) := by decide +kernel
theorem dX5_comeOn_22 : decode cX5_comeOn 22 = .ok (.getfield 7, 3) := by decide +kernel
theorem dX5_comeOn_25 : decode cX5_comeOn 25 = .ok (.aload_n 0, 1) := by decide +kernel
theorem dX5_comeOn_26 : decode cX5_comeOn 26 = .ok (.getfield 16, 3) := by decide +kernel
theorem dX5_comeOn_29 : decode cX5_comeOn 29 = .ok (.invokestatic 152, 3) := by decide +kernel
theorem dX5_comeOn_32 : decode cX5_comeOn 32 = .ok (.iconst 0, 1) := by decide +kernel
theorem dX5_comeOn_33 : decode cX5_comeOn 33 = .ok (.istore_n 3, 1) := by decide +kernel
theorem dX5_comeOn_34 : decode cX5_comeOn 34 = .ok (.iconst (-1), 1) := by decide +kernel
theorem dX5_comeOn_35 : decode cX5_comeOn 35 = .ok (.istore 4, 2) := by decide +kernel
theorem dX5_comeOn_37 : decode cX5_comeOn 37 = .ok (.iconst 0, 1) := by decide +kernel
theorem dX5_comeOn_38 : decode cX5_comeOn 38 = .ok (.istore 5, 2) := by decide +kernel
theorem dX5_comeOn_40 : decode cX5_comeOn 40 = .ok (.iload 5, 2) := by decide +kernel
theorem dX5_comeOn_42 : decode cX5_comeOn 42 = .ok (.bipush 6, 2) := by decide +kernel
theorem dX5_comeOn_44 : decode cX5_comeOn 44 = .ok (.if_icmp .ge 50, 3) := by decide +kernel
theorem dX5_comeOn_47 : decode cX5_comeOn 47 = .ok (.aload_n 0, 1) := by decide +kernel
theorem dX5_comeOn_48 : decode cX5_comeOn 48 = .ok (.getfield 7, 3) := by decide +kernel
theorem dX5_comeOn_51 : decode cX5_comeOn 51 = .ok (.bipush 7, 2) := by decide +kernel
theorem dX5_comeOn_53 : decode cX5_comeOn 53 = .ok (.iload 5, 2) := by decide +kernel
theorem dX5_comeOn_55 : decode cX5_comeOn 55 = .ok (.iadd, 1) := by decide +kernel
theorem dX5_comeOn_56 : decode cX5_comeOn 56 = .ok (.dup2, 1) := by decide +kernel
theorem dX5_comeOn_57 : decode cX5_comeOn 57 = .ok (.iaload, 1) := by decide +kernel
theorem dX5_comeOn_58 : decode cX5_comeOn 58 = .ok (.iconst 1, 1) := by decide +kernel
theorem dX5_comeOn_59 : decode cX5_comeOn 59 = .ok (.iload_n 1, 1) := by decide +kernel
theorem dX5_comeOn_60 : decode cX5_comeOn 60 = .ok (.ishl, 1) := by decide +kernel
theorem dX5_comeOn_61 : decode cX5_comeOn 61 = .ok (.ior, 1) := by decide +kernel
theorem dX5_comeOn_62 : decode cX5_comeOn 62 = .ok (.iastore, 1) := by decide +kernel
theorem dX5_comeOn_63 : decode cX5_comeOn 63 = .ok (.aload_n 0, 1) := by decide +kernel
theorem dX5_comeOn_64 : decode cX5_comeOn 64 = .ok (.iload_n 2, 1) := by decide +kernel
theorem dX5_comeOn_65 : decode cX5_comeOn 65 = .ok (.bipush 21, 2) := by decide +kernel
theorem dX5_comeOn_67 : decode cX5_comeOn 67 = .ok (.iload_n 1, 1) := by decide +kernel
theorem dX5_comeOn_68 : decode cX5_comeOn 68 = .ok (.iadd, 1) := by decide +kernel
theorem dX5_comeOn_69 : decode cX5_comeOn 69 = .ok (.invokevirtual 158, 3) := by decide +kernel
theorem dX5_comeOn_72 : decode cX5_comeOn 72 = .ok (.istore 6, 2) := by decide +kernel
theorem dX5_comeOn_74 : decode cX5_comeOn 74 = .ok (.iload 6, 2) := by decide +kernel
theorem dX5_comeOn_76 : decode cX5_comeOn 76 = .ok (.iload 4, 2) := by decide +kernel
theorem dX5_comeOn_78 : decode cX5_comeOn 78 = .ok (.if_icmp .le 10, 3) := by decide +kernel
theorem dX5_comeOn_81 : decode cX5_comeOn 81 = .ok (.iload 5, 2) := by decide +kernel
theorem dX5_comeOn_83 : decode cX5_comeOn 83 = .ok (.istore_n 3, 1) := by decide +kernel
theorem dX5_comeOn_84 : decode cX5_comeOn 84 = .ok (.iload 6, 2) := by decide +kernel
theorem dX5_comeOn_86 : decode cX5_comeOn 86 = .ok (.istore 4, 2) := by decide +kernel
theorem dX5_comeOn_88 : decode cX5_comeOn 88 = .ok (.iinc 5 1, 3) := by decide +kernel
theorem dX5_comeOn_91 : decode cX5_comeOn 91 = .ok (.goto (-51), 3) := by decide +kernel
theorem dX5_comeOn_94 : decode cX5_comeOn 94 = .ok (.iload_n 3, 1) := by decide +kernel
theorem dX5_comeOn_95 : decode cX5_comeOn 95 = .ok (.ireturn, 1) := by decide +kernel
theorem dX5_kindFor_0 : decode cX5_kindFor 0 = .ok (.aload_n 0, 1) := by decide +kernel
theorem dX5_kindFor_1 : decode cX5_kindFor 1 = .ok (.iload_n 1, 1) := by decide +kernel
theorem dX5_kindFor_2 : decode cX5_kindFor 2 = .ok (.invokevirtual 125, 3) := by decide +kernel
theorem dX5_kindFor_5 : decode cX5_kindFor 5 = .ok (.ifCond .eq 10, 3) := by decide +kernel
theorem dX5_kindFor_8 : decode cX5_kindFor 8 = .ok (.iload_n 2, 1) := by decide +kernel
theorem dX5_kindFor_9 : decode cX5_kindFor 9 = .ok (.invokestatic 170, 3) := by decide +kernel
theorem dX5_kindFor_12 : decode cX5_kindFor 12 = .ok (.ifCond .ne 9, 3) := by decide +kernel
theorem dX5_kindFor_15 : decode cX5_kindFor 15 = .ok (.aload_n 0, 1) := by decide +kernel
theorem dX5_kindFor_16 : decode cX5_kindFor 16 = .ok (.iconst 0, 1) := by decide +kernel
theorem dX5_kindFor_17 : decode cX5_kindFor 17 = .ok (.invokevirtual 108, 3) := by decide +kernel
theorem dX5_kindFor_20 : decode cX5_kindFor 20 = .ok (.ireturn, 1) := by decide +kernel
theorem dX5_kindFor_21 : decode cX5_kindFor 21 = .ok (.aload_n 0, 1) := by decide +kernel
theorem dX5_kindFor_22 : decode cX5_kindFor 22 = .ok (.getfield 7, 3) := by decide +kernel
theorem dX5_kindFor_25 : decode cX5_kindFor 25 = .ok (.aload_n 0, 1) := by decide +kernel
theorem dX5_kindFor_26 : decode cX5_kindFor 26 = .ok (.getfield 16, 3) := by decide +kernel
theorem dX5_kindFor_29 : decode cX5_kindFor 29 = .ok (.invokestatic 152, 3) := by decide +kernel
theorem dX5_kindFor_32 : decode cX5_kindFor 32 = .ok (.iconst 0, 1) := by decide +kernel
theorem dX5_kindFor_33 : decode cX5_kindFor 33 = .ok (.istore_n 3, 1) := by decide +kernel
theorem dX5_kindFor_34 : decode cX5_kindFor 34 = .ok (.iconst (-1), 1) := by decide +kernel
theorem dX5_kindFor_35 : decode cX5_kindFor 35 = .ok (.istore 4, 2) := by decide +kernel
theorem dX5_kindFor_37 : decode cX5_kindFor 37 = .ok (.iconst 0, 1) := by decide +kernel
theorem dX5_kindFor_38 : decode cX5_kindFor 38 = .ok (.istore 5, 2) := by decide +kernel
theorem dX5_kindFor_40 : decode cX5_kindFor 40 = .ok (.iload 5, 2) := by decide +kernel
theorem dX5_kindFor_42 : decode cX5_kindFor 42 = .ok (.bipush 7, 2) := by decide +kernel
theorem dX5_kindFor_44 : decode cX5_kindFor 44 = .ok (.if_icmp .ge 42, 3) := by decide +kernel
theorem dX5_kindFor_47 : decode cX5_kindFor 47 = .ok (.aload_n 0, 1) := by decide +kernel
theorem dX5_kindFor_48 : decode cX5_kindFor 48 = .ok (.iload_n 1, 1) := by decide +kernel
theorem dX5_kindFor_49 : decode cX5_kindFor 49 = .ok (.iconst 0, 1) := by decide +kernel
theorem dX5_kindFor_50 : decode cX5_kindFor 50 = .ok (.iload 5, 2) := by decide +kernel
theorem dX5_kindFor_52 : decode cX5_kindFor 52 = .ok (.invokevirtual 87, 3) := by decide +kernel
theorem dX5_kindFor_55 : decode cX5_kindFor 55 = .ok (.aload_n 0, 1) := by decide +kernel
theorem dX5_kindFor_56 : decode cX5_kindFor 56 = .ok (.iload_n 2, 1) := by decide +kernel
theorem dX5_kindFor_57 : decode cX5_kindFor 57 = .ok (.bipush 21, 2) := by decide +kernel
theorem dX5_kindFor_59 : decode cX5_kindFor 59 = .ok (.iload_n 1, 1) := by decide +kernel
theorem dX5_kindFor_60 : decode cX5_kindFor 60 = .ok (.iadd, 1) := by decide +kernel
theorem dX5_kindFor_61 : decode cX5_kindFor 61 = .ok (.invokevirtual 158, 3) := by decide +kernel
theorem dX5_kindFor_64 : decode cX5_kindFor 64 = .ok (.istore 6, 2) := by decide +kernel
theorem dX5_kindFor_66 : decode cX5_kindFor 66 = .ok (.iload 6, 2) := by decide +kernel
theorem dX5_kindFor_68 : decode cX5_kindFor 68 = .ok (.iload 4, 2) := by decide +kernel
theorem dX5_kindFor_70 : decode cX5_kindFor 70 = .ok (.if_icmp .le 10, 3) := by decide +kernel
theorem dX5_kindFor_73 : decode cX5_kindFor 73 = .ok (.iload 5, 2) := by decide +kernel
theorem dX5_kindFor_75 : decode cX5_kindFor 75 = .ok (.istore_n 3, 1) := by decide +kernel
theorem dX5_kindFor_76 : decode cX5_kindFor 76 = .ok (.iload 6, 2) := by decide +kernel
theorem dX5_kindFor_78 : decode cX5_kindFor 78 = .ok (.istore 4, 2) := by decide +kernel
theorem dX5_kindFor_80 : decode cX5_kindFor 80 = .ok (.iinc 5 1, 3) := by decide +kernel
theorem dX5_kindFor_83 : decode cX5_kindFor 83 = .ok (.goto (-43), 3) := by decide +kernel
theorem dX5_kindFor_86 : decode cX5_kindFor 86 = .ok (.iload_n 3, 1) := by decide +kernel
theorem dX5_kindFor_87 : decode cX5_kindFor 87 = .ok (.ireturn, 1) := by decide +kernel
theorem dX5_friendFor_0 : decode cX5_friendFor 0 = .ok (.aload_n 0, 1) := by decide +kernel
theorem dX5_friendFor_1 : decode cX5_friendFor 1 = .ok (.iload_n 1, 1) := by decide +kernel
theorem dX5_friendFor_2 : decode cX5_friendFor 2 = .ok (.invokevirtual 125, 3) := by decide +kernel
theorem dX5_friendFor_5 : decode cX5_friendFor 5 = .ok (.ifCond .eq 10, 3) := by decide +kernel
theorem dX5_friendFor_8 : decode cX5_friendFor 8 = .ok (.iload_n 2, 1) := by decide +kernel
theorem dX5_friendFor_9 : decode cX5_friendFor 9 = .ok (.invokestatic 170, 3) := by decide +kernel
theorem dX5_friendFor_12 : decode cX5_friendFor 12 = .ok (.ifCond .ne 9, 3) := by decide +kernel
theorem dX5_friendFor_15 : decode cX5_friendFor 15 = .ok (.aload_n 0, 1) := by decide +kernel
theorem dX5_friendFor_16 : decode cX5_friendFor 16 = .ok (.iconst 0, 1) := by decide +kernel
theorem dX5_friendFor_17 : decode cX5_friendFor 17 = .ok (.invokevirtual 108, 3) := by decide +kernel
theorem dX5_friendFor_20 : decode cX5_friendFor 20 = .ok (.ireturn, 1) := by decide +kernel
theorem dX5_friendFor_21 : decode cX5_friendFor 21 = .ok (.aload_n 0, 1) := by decide +kernel
theorem dX5_friendFor_22 : decode cX5_friendFor 22 = .ok (.getfield 7, 3) := by decide +kernel
theorem dX5_friendFor_25 : decode cX5_friendFor 25 = .ok (.aload_n 0, 1) := by decide +kernel
theorem dX5_friendFor_26 : decode cX5_friendFor 26 = .ok (.getfield 16, 3) := by decide +kernel
theorem dX5_friendFor_29 : decode cX5_friendFor 29 = .ok (.invokestatic 152, 3) := by decide +kernel
theorem dX5_friendFor_32 : decode cX5_friendFor 32 = .ok (.iconst (-1), 1) := by decide +kernel
theorem dX5_friendFor_33 : decode cX5_friendFor 33 = .ok (.istore_n 3, 1) := by decide +kernel
theorem dX5_friendFor_34 : decode cX5_friendFor 34 = .ok (.iconst (-1), 1) := by decide +kernel
theorem dX5_friendFor_35 : decode cX5_friendFor 35 = .ok (.istore 4, 2) := by decide +kernel
theorem dX5_friendFor_37 : decode cX5_friendFor 37 = .ok (.iconst 0, 1) := by decide +kernel
theorem dX5_friendFor_38 : decode cX5_friendFor 38 = .ok (.istore 5, 2) := by decide +kernel
theorem dX5_friendFor_40 : decode cX5_friendFor 40 = .ok (.iload 5, 2) := by decide +kernel
theorem dX5_friendFor_42 : decode cX5_friendFor 42 = .ok (.aload_n 0, 1) := by decide +kernel
theorem dX5_friendFor_43 : decode cX5_friendFor 43 = .ok (.getfield 7, 3) := by decide +kernel
theorem dX5_friendFor_46 : decode cX5_friendFor 46 = .ok (.iconst 0, 1) := by decide +kernel
theorem dX5_friendFor_47 : decode cX5_friendFor 47 = .ok (.iaload, 1) := by decide +kernel
theorem dX5_friendFor_48 : decode cX5_friendFor 48 = .ok (.if_icmp .gt 67, 3) := by decide +kernel
theorem dX5_friendFor_51 : decode cX5_friendFor 51 = .ok (.iload 5, 2) := by decide +kernel
theorem dX5_friendFor_53 : decode cX5_friendFor 53 = .ok (.iload_n 1, 1) := by decide +kernel
theorem dX5_friendFor_54 : decode cX5_friendFor 54 = .ok (.if_icmp .eq 55, 3) := by decide +kernel
theorem dX5_friendFor_57 : decode cX5_friendFor 57 = .ok (.iload 5, 2) := by decide +kernel
theorem dX5_friendFor_59 : decode cX5_friendFor 59 = .ok (.aload_n 0, 1) := by decide +kernel
theorem dX5_friendFor_60 : decode cX5_friendFor 60 = .ok (.getfield 7, 3) := by decide +kernel
theorem dX5_friendFor_63 : decode cX5_friendFor 63 = .ok (.iconst 0, 1) := by decide +kernel
theorem dX5_friendFor_64 : decode cX5_friendFor 64 = .ok (.iaload, 1) := by decide +kernel
theorem dX5_friendFor_65 : decode cX5_friendFor 65 = .ok (.if_icmp .ne 7, 3) := by decide +kernel
theorem dX5_friendFor_68 : decode cX5_friendFor 68 = .ok (.iconst (-1), 1) := by decide +kernel
theorem dX5_friendFor_69 : decode cX5_friendFor 69 = .ok (.goto 5, 3) := by decide +kernel
theorem dX5_friendFor_72 : decode cX5_friendFor 72 = .ok (.iload 5, 2) := by decide +kernel
theorem dX5_friendFor_74 : decode cX5_friendFor 74 = .ok (.istore 6, 2) := by decide +kernel
theorem dX5_friendFor_76 : decode cX5_friendFor 76 = .ok (.aload_n 0, 1) := by decide +kernel
theorem dX5_friendFor_77 : decode cX5_friendFor 77 = .ok (.iload_n 1, 1) := by decide +kernel
theorem dX5_friendFor_78 : decode cX5_friendFor 78 = .ok (.iconst 2, 1) := by decide +kernel
theorem dX5_friendFor_79 : decode cX5_friendFor 79 = .ok (.iload 6, 2) := by decide +kernel
theorem dX5_friendFor_81 : decode cX5_friendFor 81 = .ok (.invokevirtual 87, 3) := by decide +kernel
theorem dX5_friendFor_84 : decode cX5_friendFor 84 = .ok (.aload_n 0, 1) := by decide +kernel
theorem dX5_friendFor_85 : decode cX5_friendFor 85 = .ok (.iload_n 2, 1) := by decide +kernel
theorem dX5_friendFor_86 : decode cX5_friendFor 86 = .ok (.bipush 21, 2) := by decide +kernel
theorem dX5_friendFor_88 : decode cX5_friendFor 88 = .ok (.iload_n 1, 1) := by decide +kernel
theorem dX5_friendFor_89 : decode cX5_friendFor 89 = .ok (.iadd, 1) := by decide +kernel
theorem dX5_friendFor_90 : decode cX5_friendFor 90 = .ok (.invokevirtual 158, 3) := by decide +kernel
theorem dX5_friendFor_93 : decode cX5_friendFor 93 = .ok (.istore 7, 2) := by decide +kernel
theorem dX5_friendFor_95 : decode cX5_friendFor 95 = .ok (.iload 7, 2) := by decide +kernel
theorem dX5_friendFor_97 : decode cX5_friendFor 97 = .ok (.iload 4, 2) := by decide +kernel
theorem dX5_friendFor_99 : decode cX5_friendFor 99 = .ok (.if_icmp .le 10, 3) := by decide +kernel
theorem dX5_friendFor_102 : decode cX5_friendFor 102 = .ok (.iload 6, 2) := by decide +kernel
theorem dX5_friendFor_104 : decode cX5_friendFor 104 = .ok (.istore_n 3, 1) := by decide +kernel
theorem dX5_friendFor_105 : decode cX5_friendFor 105 = .ok (.iload 7, 2) := by decide +kernel
theorem dX5_friendFor_107 : decode cX5_friendFor 107 = .ok (.istore 4, 2) := by decide +kernel
theorem dX5_friendFor_109 : decode cX5_friendFor 109 = .ok (.iinc 5 1, 3) := by decide +kernel
theorem dX5_friendFor_112 : decode cX5_friendFor 112 = .ok (.goto (-72), 3) := by decide +kernel
theorem dX5_friendFor_115 : decode cX5_friendFor 115 = .ok (.iload_n 3, 1) := by decide +kernel
theorem dX5_friendFor_116 : decode cX5_friendFor 116 = .ok (.ireturn, 1) := by decide +kernel
theorem dX5_away_0 : decode cX5_away 0 = .ok (.aload_n 0, 1) := by decide +kernel
theorem dX5_away_1 : decode cX5_away 1 = .ok (.iload_n 1, 1) := by decide +kernel
theorem dX5_away_2 : decode cX5_away 2 = .ok (.invokevirtual 125, 3) := by decide +kernel
theorem dX5_away_5 : decode cX5_away 5 = .ok (.ifCond .eq 15, 3) := by decide +kernel
theorem dX5_away_8 : decode cX5_away 8 = .ok (.iload_n 2, 1) := by decide +kernel
theorem dX5_away_9 : decode cX5_away 9 = .ok (.i2l, 1) := by decide +kernel
theorem dX5_away_10 : decode cX5_away 10 = .ok (.lconst 0, 1) := by decide +kernel
theorem dX5_away_11 : decode cX5_away 11 = .ok (.ldc2_w 95, 3) := by decide +kernel
theorem dX5_away_14 : decode cX5_away 14 = .ok (.invokestatic 42, 3) := by decide +kernel
theorem dX5_away_17 : decode cX5_away 17 = .ok (.ifCond .ne 9, 3) := by decide +kernel
theorem dX5_away_20 : decode cX5_away 20 = .ok (.aload_n 0, 1) := by decide +kernel
theorem dX5_away_21 : decode cX5_away 21 = .ok (.iconst 0, 1) := by decide +kernel
theorem dX5_away_22 : decode cX5_away 22 = .ok (.invokevirtual 108, 3) := by decide +kernel
theorem dX5_away_25 : decode cX5_away 25 = .ok (.ireturn, 1) := by decide +kernel
theorem dX5_away_26 : decode cX5_away 26 = .ok (.aload_n 0, 1) := by decide +kernel
theorem dX5_away_27 : decode cX5_away 27 = .ok (.getfield 7, 3) := by decide +kernel
theorem dX5_away_30 : decode cX5_away 30 = .ok (.aload_n 0, 1) := by decide +kernel
theorem dX5_away_31 : decode cX5_away 31 = .ok (.getfield 16, 3) := by decide +kernel
theorem dX5_away_34 : decode cX5_away 34 = .ok (.invokestatic 152, 3) := by decide +kernel
theorem dX5_away_37 : decode cX5_away 37 = .ok (.iconst (-1), 1) := by decide +kernel
theorem dX5_away_38 : decode cX5_away 38 = .ok (.istore_n 3, 1) := by decide +kernel
theorem dX5_away_39 : decode cX5_away 39 = .ok (.iconst 0, 1) := by decide +kernel
theorem dX5_away_40 : decode cX5_away 40 = .ok (.istore 4, 2) := by decide +kernel
theorem dX5_away_42 : decode cX5_away 42 = .ok (.iload 4, 2) := by decide +kernel
theorem dX5_away_44 : decode cX5_away 44 = .ok (.iconst 1, 1) := by decide +kernel
theorem dX5_away_45 : decode cX5_away 45 = .ok (.aload_n 0, 1) := by decide +kernel
theorem dX5_away_46 : decode cX5_away 46 = .ok (.getfield 7, 3) := by decide +kernel
theorem dX5_away_49 : decode cX5_away 49 = .ok (.iconst 0, 1) := by decide +kernel
theorem dX5_away_50 : decode cX5_away 50 = .ok (.iaload, 1) := by decide +kernel
theorem dX5_away_51 : decode cX5_away 51 = .ok (.ishl, 1) := by decide +kernel
theorem dX5_away_52 : decode cX5_away 52 = .ok (.if_icmp .ge 92, 3) := by decide +kernel
theorem dX5_away_55 : decode cX5_away 55 = .ok (.iload 4, 2) := by decide +kernel
theorem dX5_away_57 : decode cX5_away 57 = .ok (.iload_n 1, 1) := by decide +kernel
theorem dX5_away_58 : decode cX5_away 58 = .ok (.ishr, 1) := by decide +kernel
theorem dX5_away_59 : decode cX5_away 59 = .ok (.iconst 1, 1) := by decide +kernel
theorem dX5_away_60 : decode cX5_away 60 = .ok (.iand, 1) := by decide +kernel
theorem dX5_away_61 : decode cX5_away 61 = .ok (.iconst 1, 1) := by decide +kernel
theorem dX5_away_62 : decode cX5_away 62 = .ok (.if_icmp .eq 76, 3) := by decide +kernel
theorem dX5_away_65 : decode cX5_away 65 = .ok (.iload_n 3, 1) := by decide +kernel
theorem dX5_away_66 : decode cX5_away 66 = .ok (.ifCond .lt 18, 3) := by decide +kernel
theorem dX5_away_69 : decode cX5_away 69 = .ok (.iload 4, 2) := by decide +kernel
theorem dX5_away_71 : decode cX5_away 71 = .ok (.invokestatic 78, 3) := by decide +kernel
theorem dX5_away_74 : decode cX5_away 74 = .ok (.iload_n 3, 1) := by decide +kernel
theorem dX5_away_75 : decode cX5_away 75 = .ok (.invokestatic 78, 3) := by decide +kernel
theorem dX5_away_78 : decode cX5_away 78 = .ok (.if_icmp .lt 6, 3) := by decide +kernel
theorem dX5_away_81 : decode cX5_away 81 = .ok (.goto 57, 3) := by decide +kernel
theorem dX5_away_84 : decode cX5_away 84 = .ok (.iconst 0, 1) := by decide +kernel
theorem dX5_away_85 : decode cX5_away 85 = .ok (.istore 5, 2) := by decide +kernel
theorem dX5_away_87 : decode cX5_away 87 = .ok (.iload 5, 2) := by decide +kernel
theorem dX5_away_89 : decode cX5_away 89 = .ok (.bipush 6, 2) := by decide +kernel
theorem dX5_away_91 : decode cX5_away 91 = .ok (.if_icmp .ge 26, 3) := by decide +kernel
theorem dX5_away_94 : decode cX5_away 94 = .ok (.aload_n 0, 1) := by decide +kernel
theorem dX5_away_95 : decode cX5_away 95 = .ok (.getfield 7, 3) := by decide +kernel
theorem dX5_away_98 : decode cX5_away 98 = .ok (.bipush 7, 2) := by decide +kernel
theorem dX5_away_100 : decode cX5_away 100 = .ok (.iload 5, 2) := by decide +kernel
theorem dX5_away_102 : decode cX5_away 102 = .ok (.iadd, 1) := by decide +kernel
theorem dX5_away_103 : decode cX5_away 103 = .ok (.dup2, 1) := by decide +kernel
theorem dX5_away_104 : decode cX5_away 104 = .ok (.iaload, 1) := by decide +kernel
theorem dX5_away_105 : decode cX5_away 105 = .ok (.iload 4, 2) := by decide +kernel
theorem dX5_away_107 : decode cX5_away 107 = .ok (.iconst (-1), 1) := by decide +kernel
theorem dX5_away_108 : decode cX5_away 108 = .ok (.ixor, 1) := by decide +kernel
theorem dX5_away_109 : decode cX5_away 109 = .ok (.iand, 1) := by decide +kernel
theorem dX5_away_110 : decode cX5_away 110 = .ok (.iastore, 1) := by decide +kernel
theorem dX5_away_111 : decode cX5_away 111 = .ok (.iinc 5 1, 3) := by decide +kernel
theorem dX5_away_114 : decode cX5_away 114 = .ok (.goto (-27), 3) := by decide +kernel
theorem dX5_away_117 : decode cX5_away 117 = .ok (.aload_n 0, 1) := by decide +kernel
theorem dX5_away_118 : decode cX5_away 118 = .ok (.iload_n 2, 1) := by decide +kernel
theorem dX5_away_119 : decode cX5_away 119 = .ok (.bipush 21, 2) := by decide +kernel
theorem dX5_away_121 : decode cX5_away 121 = .ok (.iload_n 1, 1) := by decide +kernel
theorem dX5_away_122 : decode cX5_away 122 = .ok (.iadd, 1) := by decide +kernel
theorem dX5_away_123 : decode cX5_away 123 = .ok (.invokevirtual 158, 3) := by decide +kernel
theorem dX5_away_126 : decode cX5_away 126 = .ok (.bipush 60, 2) := by decide +kernel
theorem dX5_away_128 : decode cX5_away 128 = .ok (.if_icmp .lt 8, 3) := by decide +kernel
theorem dX5_away_131 : decode cX5_away 131 = .ok (.iload 4, 2) := by decide +kernel
theorem dX5_away_133 : decode cX5_away 133 = .ok (.goto 4, 3) := by decide +kernel
theorem dX5_away_136 : decode cX5_away 136 = .ok (.iload_n 3, 1) := by decide +kernel
theorem dX5_away_137 : decode cX5_away 137 = .ok (.istore_n 3, 1) := by decide +kernel
theorem dX5_away_138 : decode cX5_away 138 = .ok (.iinc 4 1, 3) := by decide +kernel
theorem dX5_away_141 : decode cX5_away 141 = .ok (.goto (-99), 3) := by decide +kernel
theorem dX5_away_144 : decode cX5_away 144 = .ok (.iload_n 3, 1) := by decide +kernel
theorem dX5_away_145 : decode cX5_away 145 = .ok (.ifCond .ge 11, 3) := by decide +kernel
theorem dX5_away_148 : decode cX5_away 148 = .ok (.aload_n 0, 1) := by decide +kernel
theorem dX5_away_149 : decode cX5_away 149 = .ok (.iconst 3, 1) := by decide +kernel
theorem dX5_away_150 : decode cX5_away 150 = .ok (.invokevirtual 108, 3) := by decide +kernel
theorem dX5_away_153 : decode cX5_away 153 = .ok (.goto 4, 3) := by decide +kernel
theorem dX5_away_156 : decode cX5_away 156 = .ok (.iload_n 3, 1) := by decide +kernel
theorem dX5_away_157 : decode cX5_away 157 = .ok (.ireturn, 1) := by decide +kernel
theorem dX5_whyNot_0 : decode cX5_whyNot 0 = .ok (.aload_n 0, 1) := by decide +kernel
theorem dX5_whyNot_1 : decode cX5_whyNot 1 = .ok (.iload_n 1, 1) := by decide +kernel
theorem dX5_whyNot_2 : decode cX5_whyNot 2 = .ok (.invokevirtual 173, 3) := by decide +kernel
theorem dX5_whyNot_5 : decode cX5_whyNot 5 = .ok (.istore_n 3, 1) := by decide +kernel
theorem dX5_whyNot_6 : decode cX5_whyNot 6 = .ok (.iload_n 3, 1) := by decide +kernel
theorem dX5_whyNot_7 : decode cX5_whyNot 7 = .ok (.ifCond .lt 7, 3) := by decide +kernel
theorem dX5_whyNot_10 : decode cX5_whyNot 10 = .ok (.iload_n 3, 1) := by decide +kernel
theorem dX5_whyNot_11 : decode cX5_whyNot 11 = .ok (.goto 16, 3) := by decide +kernel
theorem dX5_whyNot_14 : decode cX5_whyNot 14 = .ok (.aload_n 0, 1) := by decide +kernel
theorem dX5_whyNot_15 : decode cX5_whyNot 15 = .ok (.iload_n 2, 1) := by decide +kernel
theorem dX5_whyNot_16 : decode cX5_whyNot 16 = .ok (.invokevirtual 125, 3) := by decide +kernel
theorem dX5_whyNot_19 : decode cX5_whyNot 19 = .ok (.ifCond .eq 7, 3) := by decide +kernel
theorem dX5_whyNot_22 : decode cX5_whyNot 22 = .ok (.iconst (-1), 1) := by decide +kernel
theorem dX5_whyNot_23 : decode cX5_whyNot 23 = .ok (.goto 4, 3) := by decide +kernel
theorem dX5_whyNot_26 : decode cX5_whyNot 26 = .ok (.iconst 0, 1) := by decide +kernel
theorem dX5_whyNot_27 : decode cX5_whyNot 27 = .ok (.ireturn, 1) := by decide +kernel
theorem dX5_isTold_0 : decode cX5_isTold 0 = .ok (.iconst 1, 1) := by decide +kernel
theorem dX5_isTold_1 : decode cX5_isTold 1 = .ok (.istore 4, 2) := by decide +kernel
theorem dX5_isTold_3 : decode cX5_isTold 3 = .ok (.iconst 0, 1) := by decide +kernel
theorem dX5_isTold_4 : decode cX5_isTold 4 = .ok (.istore 5, 2) := by decide +kernel
theorem dX5_isTold_6 : decode cX5_isTold 6 = .ok (.iload 5, 2) := by decide +kernel
theorem dX5_isTold_8 : decode cX5_isTold 8 = .ok (.aload_n 0, 1) := by decide +kernel
theorem dX5_isTold_9 : decode cX5_isTold 9 = .ok (.getfield 32, 3) := by decide +kernel
theorem dX5_isTold_12 : decode cX5_isTold 12 = .ok (.iload_n 1, 1) := by decide +kernel
theorem dX5_isTold_13 : decode cX5_isTold 13 = .ok (.iaload, 1) := by decide +kernel
theorem dX5_isTold_14 : decode cX5_isTold 14 = .ok (.if_icmp .ge 79, 3) := by decide +kernel
theorem dX5_isTold_17 : decode cX5_isTold 17 = .ok (.iload 4, 2) := by decide +kernel
theorem dX5_isTold_19 : decode cX5_isTold 19 = .ok (.ifCond .eq 74, 3) := by decide +kernel
theorem dX5_isTold_22 : decode cX5_isTold 22 = .ok (.aload_n 0, 1) := by decide +kernel
theorem dX5_isTold_23 : decode cX5_isTold 23 = .ok (.getfield 35, 3) := by decide +kernel
theorem dX5_isTold_26 : decode cX5_isTold 26 = .ok (.bipush 40, 2) := by decide +kernel
theorem dX5_isTold_28 : decode cX5_isTold 28 = .ok (.iload_n 1, 1) := by decide +kernel
theorem dX5_isTold_29 : decode cX5_isTold 29 = .ok (.imul, 1) := by decide +kernel
theorem dX5_isTold_30 : decode cX5_isTold 30 = .ok (.iload 5, 2) := by decide +kernel
theorem dX5_isTold_32 : decode cX5_isTold 32 = .ok (.iadd, 1) := by decide +kernel
theorem dX5_isTold_33 : decode cX5_isTold 33 = .ok (.iaload, 1) := by decide +kernel
theorem dX5_isTold_34 : decode cX5_isTold 34 = .ok (.istore 6, 2) := by decide +kernel
theorem dX5_isTold_36 : decode cX5_isTold 36 = .ok (.aload_n 0, 1) := by decide +kernel
theorem dX5_isTold_37 : decode cX5_isTold 37 = .ok (.iload_n 2, 1) := by decide +kernel
theorem dX5_isTold_38 : decode cX5_isTold 38 = .ok (.iconst 1, 1) := by decide +kernel
theorem dX5_isTold_39 : decode cX5_isTold 39 = .ok (.invokevirtual 46, 3) := by decide +kernel
theorem dX5_isTold_42 : decode cX5_isTold 42 = .ok (.istore 7, 2) := by decide +kernel
theorem dX5_isTold_44 : decode cX5_isTold 44 = .ok (.iload 6, 2) := by decide +kernel
theorem dX5_isTold_46 : decode cX5_isTold 46 = .ok (.iconst (-1), 1) := by decide +kernel
theorem dX5_isTold_47 : decode cX5_isTold 47 = .ok (.if_icmp .eq 29, 3) := by decide +kernel
theorem dX5_isTold_50 : decode cX5_isTold 50 = .ok (.iload 6, 2) := by decide +kernel
theorem dX5_isTold_52 : decode cX5_isTold 52 = .ok (.iload_n 3, 1) := by decide +kernel
theorem dX5_isTold_53 : decode cX5_isTold 53 = .ok (.ifCond .eq 18, 3) := by decide +kernel
theorem dX5_isTold_56 : decode cX5_isTold 56 = .ok (.iload 7, 2) := by decide +kernel
theorem dX5_isTold_58 : decode cX5_isTold 58 = .ok (.bipush 60, 2) := by decide +kernel
theorem dX5_isTold_60 : decode cX5_isTold 60 = .ok (.if_icmp .lt 7, 3) := by decide +kernel
theorem dX5_isTold_63 : decode cX5_isTold 63 = .ok (.iconst 1, 1) := by decide +kernel
theorem dX5_isTold_64 : decode cX5_isTold 64 = .ok (.goto 9, 3) := by decide +kernel
theorem dX5_isTold_67 : decode cX5_isTold 67 = .ok (.iconst 0, 1) := by decide +kernel
theorem dX5_isTold_68 : decode cX5_isTold 68 = .ok (.goto 5, 3) := by decide +kernel
theorem dX5_isTold_71 : decode cX5_isTold 71 = .ok (.iload 7, 2) := by decide +kernel
theorem dX5_isTold_73 : decode cX5_isTold 73 = .ok (.if_icmp .ne 7, 3) := by decide +kernel
theorem dX5_isTold_76 : decode cX5_isTold 76 = .ok (.iconst 1, 1) := by decide +kernel
theorem dX5_isTold_77 : decode cX5_isTold 77 = .ok (.goto 4, 3) := by decide +kernel
theorem dX5_isTold_80 : decode cX5_isTold 80 = .ok (.iconst 0, 1) := by decide +kernel
theorem dX5_isTold_81 : decode cX5_isTold 81 = .ok (.istore 4, 2) := by decide +kernel
theorem dX5_isTold_83 : decode cX5_isTold 83 = .ok (.aload_n 0, 1) := by decide +kernel
theorem dX5_isTold_84 : decode cX5_isTold 84 = .ok (.invokevirtual 92, 3) := by decide +kernel
theorem dX5_isTold_87 : decode cX5_isTold 87 = .ok (.iinc 5 1, 3) := by decide +kernel
theorem dX5_isTold_90 : decode cX5_isTold 90 = .ok (.goto (-84), 3) := by decide +kernel
theorem dX5_isTold_93 : decode cX5_isTold 93 = .ok (.aload_n 0, 1) := by decide +kernel
theorem dX5_isTold_94 : decode cX5_isTold 94 = .ok (.getfield 16, 3) := by decide +kernel
theorem dX5_isTold_97 : decode cX5_isTold 97 = .ok (.aload_n 0, 1) := by decide +kernel
theorem dX5_isTold_98 : decode cX5_isTold 98 = .ok (.getfield 7, 3) := by decide +kernel
theorem dX5_isTold_101 : decode cX5_isTold 101 = .ok (.invokestatic 152, 3) := by decide +kernel
theorem dX5_isTold_104 : decode cX5_isTold 104 = .ok (.iload 4, 2) := by decide +kernel
theorem dX5_isTold_106 : decode cX5_isTold 106 = .ok (.ireturn, 1) := by decide +kernel
theorem dX5_fits_0 : decode cX5_fits 0 = .ok (.aload_n 0, 1) := by decide +kernel
theorem dX5_fits_1 : decode cX5_fits 1 = .ok (.iload_n 1, 1) := by decide +kernel
theorem dX5_fits_2 : decode cX5_fits 2 = .ok (.iload_n 2, 1) := by decide +kernel
theorem dX5_fits_3 : decode cX5_fits 3 = .ok (.invokevirtual 176, 3) := by decide +kernel
theorem dX5_fits_6 : decode cX5_fits 6 = .ok (.istore_n 3, 1) := by decide +kernel
theorem dX5_fits_7 : decode cX5_fits 7 = .ok (.iload_n 3, 1) := by decide +kernel
theorem dX5_fits_8 : decode cX5_fits 8 = .ok (.ifCond .lt 9, 3) := by decide +kernel
theorem dX5_fits_11 : decode cX5_fits 11 = .ok (.aload_n 0, 1) := by decide +kernel
theorem dX5_fits_12 : decode cX5_fits 12 = .ok (.iload_n 3, 1) := by decide +kernel
theorem dX5_fits_13 : decode cX5_fits 13 = .ok (.invokevirtual 108, 3) := by decide +kernel
theorem dX5_fits_16 : decode cX5_fits 16 = .ok (.ireturn, 1) := by decide +kernel
theorem dX5_fits_17 : decode cX5_fits 17 = .ok (.aload_n 0, 1) := by decide +kernel
theorem dX5_fits_18 : decode cX5_fits 18 = .ok (.getfield 7, 3) := by decide +kernel
theorem dX5_fits_21 : decode cX5_fits 21 = .ok (.aload_n 0, 1) := by decide +kernel
theorem dX5_fits_22 : decode cX5_fits 22 = .ok (.getfield 16, 3) := by decide +kernel
theorem dX5_fits_25 : decode cX5_fits 25 = .ok (.invokestatic 152, 3) := by decide +kernel
theorem dX5_fits_28 : decode cX5_fits 28 = .ok (.iconst 0, 1) := by decide +kernel
theorem dX5_fits_29 : decode cX5_fits 29 = .ok (.istore 4, 2) := by decide +kernel
theorem dX5_fits_31 : decode cX5_fits 31 = .ok (.iconst 0, 1) := by decide +kernel
theorem dX5_fits_32 : decode cX5_fits 32 = .ok (.istore 5, 2) := by decide +kernel
theorem dX5_fits_34 : decode cX5_fits 34 = .ok (.iload 5, 2) := by decide +kernel
theorem dX5_fits_36 : decode cX5_fits 36 = .ok (.bipush 99, 2) := by decide +kernel
theorem dX5_fits_38 : decode cX5_fits 38 = .ok (.if_icmp .gt 37, 3) := by decide +kernel
theorem dX5_fits_41 : decode cX5_fits 41 = .ok (.aload_n 0, 1) := by decide +kernel
theorem dX5_fits_42 : decode cX5_fits 42 = .ok (.iload_n 2, 1) := by decide +kernel
theorem dX5_fits_43 : decode cX5_fits 43 = .ok (.iconst 1, 1) := by decide +kernel
theorem dX5_fits_44 : decode cX5_fits 44 = .ok (.iload 5, 2) := by decide +kernel
theorem dX5_fits_46 : decode cX5_fits 46 = .ok (.invokevirtual 87, 3) := by decide +kernel
theorem dX5_fits_49 : decode cX5_fits 49 = .ok (.iload 4, 2) := by decide +kernel
theorem dX5_fits_51 : decode cX5_fits 51 = .ok (.aload_n 0, 1) := by decide +kernel
theorem dX5_fits_52 : decode cX5_fits 52 = .ok (.iload_n 1, 1) := by decide +kernel
theorem dX5_fits_53 : decode cX5_fits 53 = .ok (.iload_n 2, 1) := by decide +kernel
theorem dX5_fits_54 : decode cX5_fits 54 = .ok (.iconst 1, 1) := by decide +kernel
theorem dX5_fits_55 : decode cX5_fits 55 = .ok (.invokevirtual 179, 3) := by decide +kernel
theorem dX5_fits_58 : decode cX5_fits 58 = .ok (.ifCond .eq 7, 3) := by decide +kernel
theorem dX5_fits_61 : decode cX5_fits 61 = .ok (.iconst 1, 1) := by decide +kernel
theorem dX5_fits_62 : decode cX5_fits 62 = .ok (.goto 4, 3) := by decide +kernel
theorem dX5_fits_65 : decode cX5_fits 65 = .ok (.iconst 0, 1) := by decide +kernel
theorem dX5_fits_66 : decode cX5_fits 66 = .ok (.iadd, 1) := by decide +kernel
theorem dX5_fits_67 : decode cX5_fits 67 = .ok (.istore 4, 2) := by decide +kernel
theorem dX5_fits_69 : decode cX5_fits 69 = .ok (.iinc 5 1, 3) := by decide +kernel
theorem dX5_fits_72 : decode cX5_fits 72 = .ok (.goto (-38), 3) := by decide +kernel
theorem dX5_fits_75 : decode cX5_fits 75 = .ok (.iload 4, 2) := by decide +kernel
theorem dX5_fits_77 : decode cX5_fits 77 = .ok (.ireturn, 1) := by decide +kernel
theorem dX5_mood_0 : decode cX5_mood 0 = .ok (.aload_n 0, 1) := by decide +kernel
theorem dX5_mood_1 : decode cX5_mood 1 = .ok (.iload_n 1, 1) := by decide +kernel
theorem dX5_mood_2 : decode cX5_mood 2 = .ok (.iload_n 2, 1) := by decide +kernel
theorem dX5_mood_3 : decode cX5_mood 3 = .ok (.invokevirtual 176, 3) := by decide +kernel
theorem dX5_mood_6 : decode cX5_mood 6 = .ok (.istore_n 3, 1) := by decide +kernel
theorem dX5_mood_7 : decode cX5_mood 7 = .ok (.iload_n 3, 1) := by decide +kernel
theorem dX5_mood_8 : decode cX5_mood 8 = .ok (.ifCond .lt 9, 3) := by decide +kernel
theorem dX5_mood_11 : decode cX5_mood 11 = .ok (.aload_n 0, 1) := by decide +kernel
theorem dX5_mood_12 : decode cX5_mood 12 = .ok (.iload_n 3, 1) := by decide +kernel
theorem dX5_mood_13 : decode cX5_mood 13 = .ok (.invokevirtual 108, 3) := by decide +kernel
theorem dX5_mood_16 : decode cX5_mood 16 = .ok (.ireturn, 1) := by decide +kernel
theorem dX5_mood_17 : decode cX5_mood 17 = .ok (.aload_n 0, 1) := by decide +kernel
theorem dX5_mood_18 : decode cX5_mood 18 = .ok (.getfield 7, 3) := by decide +kernel
theorem dX5_mood_21 : decode cX5_mood 21 = .ok (.aload_n 0, 1) := by decide +kernel
theorem dX5_mood_22 : decode cX5_mood 22 = .ok (.getfield 16, 3) := by decide +kernel
theorem dX5_mood_25 : decode cX5_mood 25 = .ok (.invokestatic 152, 3) := by decide +kernel
theorem dX5_mood_28 : decode cX5_mood 28 = .ok (.iconst 0, 1) := by decide +kernel
theorem dX5_mood_29 : decode cX5_mood 29 = .ok (.istore 4, 2) := by decide +kernel
theorem dX5_mood_31 : decode cX5_mood 31 = .ok (.iload 4, 2) := by decide +kernel
theorem dX5_mood_33 : decode cX5_mood 33 = .ok (.bipush 99, 2) := by decide +kernel
theorem dX5_mood_35 : decode cX5_mood 35 = .ok (.if_icmp .gt 30, 3) := by decide +kernel
theorem dX5_mood_38 : decode cX5_mood 38 = .ok (.aload_n 0, 1) := by decide +kernel
theorem dX5_mood_39 : decode cX5_mood 39 = .ok (.iload_n 2, 1) := by decide +kernel
theorem dX5_mood_40 : decode cX5_mood 40 = .ok (.iconst 1, 1) := by decide +kernel
theorem dX5_mood_41 : decode cX5_mood 41 = .ok (.iload 4, 2) := by decide +kernel
theorem dX5_mood_43 : decode cX5_mood 43 = .ok (.invokevirtual 87, 3) := by decide +kernel
theorem dX5_mood_46 : decode cX5_mood 46 = .ok (.aload_n 0, 1) := by decide +kernel
theorem dX5_mood_47 : decode cX5_mood 47 = .ok (.iload_n 1, 1) := by decide +kernel
theorem dX5_mood_48 : decode cX5_mood 48 = .ok (.iload_n 2, 1) := by decide +kernel
theorem dX5_mood_49 : decode cX5_mood 49 = .ok (.iconst 1, 1) := by decide +kernel
theorem dX5_mood_50 : decode cX5_mood 50 = .ok (.invokevirtual 179, 3) := by decide +kernel
theorem dX5_mood_53 : decode cX5_mood 53 = .ok (.ifCond .eq 6, 3) := by decide +kernel
theorem dX5_mood_56 : decode cX5_mood 56 = .ok (.iload 4, 2) := by decide +kernel
theorem dX5_mood_58 : decode cX5_mood 58 = .ok (.ireturn, 1) := by decide +kernel
theorem dX5_mood_59 : decode cX5_mood 59 = .ok (.iinc 4 1, 3) := by decide +kernel
theorem dX5_mood_62 : decode cX5_mood 62 = .ok (.goto (-31), 3) := by decide +kernel
theorem dX5_mood_65 : decode cX5_mood 65 = .ok (.aload_n 0, 1) := by decide +kernel
theorem dX5_mood_66 : decode cX5_mood 66 = .ok (.iconst 3, 1) := by decide +kernel
theorem dX5_mood_67 : decode cX5_mood 67 = .ok (.invokevirtual 108, 3) := by decide +kernel
theorem dX5_mood_70 : decode cX5_mood 70 = .ok (.ireturn, 1) := by decide +kernel
theorem dX5_kinds_0 : decode cX5_kinds 0 = .ok (.aload_n 0, 1) := by decide +kernel
theorem dX5_kinds_1 : decode cX5_kinds 1 = .ok (.iload_n 1, 1) := by decide +kernel
theorem dX5_kinds_2 : decode cX5_kinds 2 = .ok (.iload_n 2, 1) := by decide +kernel
theorem dX5_kinds_3 : decode cX5_kinds 3 = .ok (.invokevirtual 176, 3) := by decide +kernel
theorem dX5_kinds_6 : decode cX5_kinds 6 = .ok (.istore_n 3, 1) := by decide +kernel
theorem dX5_kinds_7 : decode cX5_kinds 7 = .ok (.iload_n 3, 1) := by decide +kernel
theorem dX5_kinds_8 : decode cX5_kinds 8 = .ok (.ifCond .lt 9, 3) := by decide +kernel
theorem dX5_kinds_11 : decode cX5_kinds 11 = .ok (.aload_n 0, 1) := by decide +kernel
theorem dX5_kinds_12 : decode cX5_kinds 12 = .ok (.iload_n 3, 1) := by decide +kernel
theorem dX5_kinds_13 : decode cX5_kinds 13 = .ok (.invokevirtual 108, 3) := by decide +kernel
theorem dX5_kinds_16 : decode cX5_kinds 16 = .ok (.ireturn, 1) := by decide +kernel
theorem dX5_kinds_17 : decode cX5_kinds 17 = .ok (.aload_n 0, 1) := by decide +kernel
theorem dX5_kinds_18 : decode cX5_kinds 18 = .ok (.getfield 7, 3) := by decide +kernel
theorem dX5_kinds_21 : decode cX5_kinds 21 = .ok (.aload_n 0, 1) := by decide +kernel
theorem dX5_kinds_22 : decode cX5_kinds 22 = .ok (.getfield 16, 3) := by decide +kernel
theorem dX5_kinds_25 : decode cX5_kinds 25 = .ok (.invokestatic 152, 3) := by decide +kernel
theorem dX5_kinds_28 : decode cX5_kinds 28 = .ok (.iconst 0, 1) := by decide +kernel
theorem dX5_kinds_29 : decode cX5_kinds 29 = .ok (.istore 4, 2) := by decide +kernel
theorem dX5_kinds_31 : decode cX5_kinds 31 = .ok (.iconst 0, 1) := by decide +kernel
theorem dX5_kinds_32 : decode cX5_kinds 32 = .ok (.istore 5, 2) := by decide +kernel
theorem dX5_kinds_34 : decode cX5_kinds 34 = .ok (.iload 5, 2) := by decide +kernel
theorem dX5_kinds_36 : decode cX5_kinds 36 = .ok (.bipush 7, 2) := by decide +kernel
theorem dX5_kinds_38 : decode cX5_kinds 38 = .ok (.if_icmp .ge 40, 3) := by decide +kernel
theorem dX5_kinds_41 : decode cX5_kinds 41 = .ok (.aload_n 0, 1) := by decide +kernel
theorem dX5_kinds_42 : decode cX5_kinds 42 = .ok (.iload_n 2, 1) := by decide +kernel
theorem dX5_kinds_43 : decode cX5_kinds 43 = .ok (.iconst 0, 1) := by decide +kernel
theorem dX5_kinds_44 : decode cX5_kinds 44 = .ok (.iload 5, 2) := by decide +kernel
theorem dX5_kinds_46 : decode cX5_kinds 46 = .ok (.invokevirtual 87, 3) := by decide +kernel
theorem dX5_kinds_49 : decode cX5_kinds 49 = .ok (.iload 4, 2) := by decide +kernel
theorem dX5_kinds_51 : decode cX5_kinds 51 = .ok (.aload_n 0, 1) := by decide +kernel
theorem dX5_kinds_52 : decode cX5_kinds 52 = .ok (.iload_n 1, 1) := by decide +kernel
theorem dX5_kinds_53 : decode cX5_kinds 53 = .ok (.iload_n 2, 1) := by decide +kernel
theorem dX5_kinds_54 : decode cX5_kinds 54 = .ok (.iconst 0, 1) := by decide +kernel
theorem dX5_kinds_55 : decode cX5_kinds 55 = .ok (.invokevirtual 179, 3) := by decide +kernel
theorem dX5_kinds_58 : decode cX5_kinds 58 = .ok (.ifCond .eq 10, 3) := by decide +kernel
theorem dX5_kinds_61 : decode cX5_kinds 61 = .ok (.iconst 1, 1) := by decide +kernel
theorem dX5_kinds_62 : decode cX5_kinds 62 = .ok (.iload 5, 2) := by decide +kernel
theorem dX5_kinds_64 : decode cX5_kinds 64 = .ok (.ishl, 1) := by decide +kernel
theorem dX5_kinds_65 : decode cX5_kinds 65 = .ok (.goto 4, 3) := by decide +kernel
theorem dX5_kinds_68 : decode cX5_kinds 68 = .ok (.iconst 0, 1) := by decide +kernel
theorem dX5_kinds_69 : decode cX5_kinds 69 = .ok (.ior, 1) := by decide +kernel
theorem dX5_kinds_70 : decode cX5_kinds 70 = .ok (.istore 4, 2) := by decide +kernel
theorem dX5_kinds_72 : decode cX5_kinds 72 = .ok (.iinc 5 1, 3) := by decide +kernel
theorem dX5_kinds_75 : decode cX5_kinds 75 = .ok (.goto (-41), 3) := by decide +kernel
theorem dX5_kinds_78 : decode cX5_kinds 78 = .ok (.iload 4, 2) := by decide +kernel
theorem dX5_kinds_80 : decode cX5_kinds 80 = .ok (.ireturn, 1) := by decide +kernel
theorem dX5_draw_0 : decode cX5_draw 0 = .ok (.aload_n 0, 1) := by decide +kernel
theorem dX5_draw_1 : decode cX5_draw 1 = .ok (.getfield 7, 3) := by decide +kernel
theorem dX5_draw_4 : decode cX5_draw 4 = .ok (.iconst 2, 1) := by decide +kernel
theorem dX5_draw_5 : decode cX5_draw 5 = .ok (.aload_n 0, 1) := by decide +kernel
theorem dX5_draw_6 : decode cX5_draw 6 = .ok (.getfield 7, 3) := by decide +kernel
theorem dX5_draw_9 : decode cX5_draw 9 = .ok (.iconst 2, 1) := by decide +kernel
theorem dX5_draw_10 : decode cX5_draw 10 = .ok (.iaload, 1) := by decide +kernel
theorem dX5_draw_11 : decode cX5_draw 11 = .ok (.ldc 183, 2) := by decide +kernel
theorem dX5_draw_13 : decode cX5_draw 13 = .ok (.imul, 1) := by decide +kernel
theorem dX5_draw_14 : decode cX5_draw 14 = .ok (.sipush 12345, 3) := by decide +kernel
theorem dX5_draw_17 : decode cX5_draw 17 = .ok (.iadd, 1) := by decide +kernel
theorem dX5_draw_18 : decode cX5_draw 18 = .ok (.iastore, 1) := by decide +kernel
theorem dX5_draw_19 : decode cX5_draw 19 = .ok (.aload_n 0, 1) := by decide +kernel
theorem dX5_draw_20 : decode cX5_draw 20 = .ok (.getfield 7, 3) := by decide +kernel
theorem dX5_draw_23 : decode cX5_draw 23 = .ok (.iconst 2, 1) := by decide +kernel
theorem dX5_draw_24 : decode cX5_draw 24 = .ok (.iaload, 1) := by decide +kernel
theorem dX5_draw_25 : decode cX5_draw 25 = .ok (.bipush 8, 2) := by decide +kernel
theorem dX5_draw_27 : decode cX5_draw 27 = .ok (.iushr, 1) := by decide +kernel
theorem dX5_draw_28 : decode cX5_draw 28 = .ok (.ireturn, 1) := by decide +kernel
theorem dX5_come_0 : decode cX5_come 0 = .ok (.iload_n 1, 1) := by decide +kernel
theorem dX5_come_1 : decode cX5_come 1 = .ok (.i2l, 1) := by decide +kernel
theorem dX5_come_2 : decode cX5_come 2 = .ok (.lconst 1, 1) := by decide +kernel
theorem dX5_come_3 : decode cX5_come 3 = .ok (.ldc2_w 95, 3) := by decide +kernel
theorem dX5_come_6 : decode cX5_come 6 = .ok (.invokestatic 42, 3) := by decide +kernel
theorem dX5_come_9 : decode cX5_come 9 = .ok (.ifCond .ne 9, 3) := by decide +kernel
theorem dX5_come_12 : decode cX5_come 12 = .ok (.aload_n 0, 1) := by decide +kernel
theorem dX5_come_13 : decode cX5_come 13 = .ok (.iconst 0, 1) := by decide +kernel
theorem dX5_come_14 : decode cX5_come 14 = .ok (.invokevirtual 108, 3) := by decide +kernel
theorem dX5_come_17 : decode cX5_come 17 = .ok (.ireturn, 1) := by decide +kernel
theorem dX5_come_18 : decode cX5_come 18 = .ok (.aload_n 0, 1) := by decide +kernel
theorem dX5_come_19 : decode cX5_come 19 = .ok (.getfield 7, 3) := by decide +kernel
theorem dX5_come_22 : decode cX5_come 22 = .ok (.iconst 1, 1) := by decide +kernel
theorem dX5_come_23 : decode cX5_come 23 = .ok (.iaload, 1) := by decide +kernel
theorem dX5_come_24 : decode cX5_come 24 = .ok (.iload_n 1, 1) := by decide +kernel
theorem dX5_come_25 : decode cX5_come 25 = .ok (.iadd, 1) := by decide +kernel
theorem dX5_come_26 : decode cX5_come 26 = .ok (.ldc 91, 2) := by decide +kernel
theorem dX5_come_28 : decode cX5_come 28 = .ok (.if_icmp .le 9, 3) := by decide +kernel
theorem dX5_come_31 : decode cX5_come 31 = .ok (.aload_n 0, 1) := by decide +kernel
theorem dX5_come_32 : decode cX5_come 32 = .ok (.iconst 4, 1) := by decide +kernel
theorem dX5_come_33 : decode cX5_come 33 = .ok (.invokevirtual 108, 3) := by decide +kernel
theorem dX5_come_36 : decode cX5_come 36 = .ok (.ireturn, 1) := by decide +kernel
theorem dX5_come_37 : decode cX5_come 37 = .ok (.iconst 0, 1) := by decide +kernel
theorem dX5_come_38 : decode cX5_come 38 = .ok (.istore_n 2, 1) := by decide +kernel
theorem dX5_come_39 : decode cX5_come 39 = .ok (.iload_n 2, 1) := by decide +kernel
theorem dX5_come_40 : decode cX5_come 40 = .ok (.iload_n 1, 1) := by decide +kernel
theorem dX5_come_41 : decode cX5_come 41 = .ok (.if_icmp .ge 54, 3) := by decide +kernel
theorem dX5_come_44 : decode cX5_come 44 = .ok (.aload_n 0, 1) := by decide +kernel
theorem dX5_come_45 : decode cX5_come 45 = .ok (.getfield 7, 3) := by decide +kernel
theorem dX5_come_48 : decode cX5_come 48 = .ok (.bipush 7, 2) := by decide +kernel
theorem dX5_come_50 : decode cX5_come 50 = .ok (.aload_n 0, 1) := by decide +kernel
theorem dX5_come_51 : decode cX5_come 51 = .ok (.getfield 7, 3) := by decide +kernel
theorem dX5_come_54 : decode cX5_come 54 = .ok (.iconst 1, 1) := by decide +kernel
theorem dX5_come_55 : decode cX5_come 55 = .ok (.iaload, 1) := by decide +kernel
theorem dX5_come_56 : decode cX5_come 56 = .ok (.bipush 6, 2) := by decide +kernel
theorem dX5_come_58 : decode cX5_come 58 = .ok (.irem, 1) := by decide +kernel
theorem dX5_come_59 : decode cX5_come 59 = .ok (.iadd, 1) := by decide +kernel
theorem dX5_come_60 : decode cX5_come 60 = .ok (.aload_n 0, 1) := by decide +kernel
theorem dX5_come_61 : decode cX5_come 61 = .ok (.invokevirtual 184, 3) := by decide +kernel
theorem dX5_come_64 : decode cX5_come 64 = .ok (.sipush 256, 3) := by decide +kernel
theorem dX5_come_67 : decode cX5_come 67 = .ok (.irem, 1) := by decide +kernel
theorem dX5_come_68 : decode cX5_come 68 = .ok (.iastore, 1) := by decide +kernel
theorem dX5_come_69 : decode cX5_come 69 = .ok (.aload_n 0, 1) := by decide +kernel
theorem dX5_come_70 : decode cX5_come 70 = .ok (.getfield 7, 3) := by decide +kernel
theorem dX5_come_73 : decode cX5_come 73 = .ok (.bipush 6, 2) := by decide +kernel
theorem dX5_come_75 : decode cX5_come 75 = .ok (.iconst 1, 1) := by decide +kernel
theorem dX5_come_76 : decode cX5_come 76 = .ok (.aload_n 0, 1) := by decide +kernel
theorem dX5_come_77 : decode cX5_come 77 = .ok (.invokevirtual 184, 3) := by decide +kernel
theorem dX5_come_80 : decode cX5_come 80 = .ok (.bipush 12, 2) := by decide +kernel
theorem dX5_come_82 : decode cX5_come 82 = .ok (.irem, 1) := by decide +kernel
theorem dX5_come_83 : decode cX5_come 83 = .ok (.iadd, 1) := by decide +kernel
theorem dX5_come_84 : decode cX5_come 84 = .ok (.iastore, 1) := by decide +kernel
theorem dX5_come_85 : decode cX5_come 85 = .ok (.aload_n 0, 1) := by decide +kernel
theorem dX5_come_86 : decode cX5_come 86 = .ok (.invokevirtual 92, 3) := by decide +kernel
theorem dX5_come_89 : decode cX5_come 89 = .ok (.iinc 2 1, 3) := by decide +kernel
theorem dX5_come_92 : decode cX5_come 92 = .ok (.goto (-53), 3) := by decide +kernel
theorem dX5_come_95 : decode cX5_come 95 = .ok (.aload_n 0, 1) := by decide +kernel
theorem dX5_come_96 : decode cX5_come 96 = .ok (.iconst 1, 1) := by decide +kernel
theorem dX5_come_97 : decode cX5_come 97 = .ok (.invokevirtual 146, 3) := by decide +kernel
theorem dX5_come_100 : decode cX5_come 100 = .ok (.ireturn, 1) := by decide +kernel
theorem dX5_odds_0 : decode cX5_odds 0 = .ok (.aload_n 0, 1) := by decide +kernel
theorem dX5_odds_1 : decode cX5_odds 1 = .ok (.iload_n 1, 1) := by decide +kernel
theorem dX5_odds_2 : decode cX5_odds 2 = .ok (.invokevirtual 125, 3) := by decide +kernel
theorem dX5_odds_5 : decode cX5_odds 5 = .ok (.ifCond .eq 25, 3) := by decide +kernel
theorem dX5_odds_8 : decode cX5_odds 8 = .ok (.iload_n 2, 1) := by decide +kernel
theorem dX5_odds_9 : decode cX5_odds 9 = .ok (.i2l, 1) := by decide +kernel
theorem dX5_odds_10 : decode cX5_odds 10 = .ok (.lconst 0, 1) := by decide +kernel
theorem dX5_odds_11 : decode cX5_odds 11 = .ok (.ldc2_w 187, 3) := by decide +kernel
theorem dX5_odds_14 : decode cX5_odds 14 = .ok (.invokestatic 42, 3) := by decide +kernel
theorem dX5_odds_17 : decode cX5_odds 17 = .ok (.ifCond .eq 13, 3) := by decide +kernel
theorem dX5_odds_20 : decode cX5_odds 20 = .ok (.iload_n 3, 1) := by decide +kernel
theorem dX5_odds_21 : decode cX5_odds 21 = .ok (.i2l, 1) := by decide +kernel
theorem dX5_odds_22 : decode cX5_odds 22 = .ok (.lconst 0, 1) := by decide +kernel
theorem dX5_odds_23 : decode cX5_odds 23 = .ok (.lconst 1, 1) := by decide +kernel
theorem dX5_odds_24 : decode cX5_odds 24 = .ok (.invokestatic 42, 3) := by decide +kernel
theorem dX5_odds_27 : decode cX5_odds 27 = .ok (.ifCond .ne 10, 3) := by decide +kernel
theorem dX5_odds_30 : decode cX5_odds 30 = .ok (.aload_n 0, 1) := by decide +kernel
theorem dX5_odds_31 : decode cX5_odds 31 = .ok (.iconst 0, 1) := by decide +kernel
theorem dX5_odds_32 : decode cX5_odds 32 = .ok (.invokevirtual 108, 3) := by decide +kernel
theorem dX5_odds_35 : decode cX5_odds 35 = .ok (.i2l, 1) := by decide +kernel
theorem dX5_odds_36 : decode cX5_odds 36 = .ok (.lreturn, 1) := by decide +kernel
theorem dX5_odds_37 : decode cX5_odds 37 = .ok (.iconst 0, 1) := by decide +kernel
theorem dX5_odds_38 : decode cX5_odds 38 = .ok (.istore 4, 2) := by decide +kernel
theorem dX5_odds_40 : decode cX5_odds 40 = .ok (.iconst 0, 1) := by decide +kernel
theorem dX5_odds_41 : decode cX5_odds 41 = .ok (.istore 5, 2) := by decide +kernel
theorem dX5_odds_43 : decode cX5_odds 43 = .ok (.iload 5, 2) := by decide +kernel
theorem dX5_odds_45 : decode cX5_odds 45 = .ok (.sipush 256, 3) := by decide +kernel
theorem dX5_odds_48 : decode cX5_odds 48 = .ok (.if_icmp .ge 24, 3) := by decide +kernel
theorem dX5_odds_51 : decode cX5_odds 51 = .ok (.iload 4, 2) := by decide +kernel
theorem dX5_odds_53 : decode cX5_odds 53 = .ok (.aload_n 0, 1) := by decide +kernel
theorem dX5_odds_54 : decode cX5_odds 54 = .ok (.iload 5, 2) := by decide +kernel
theorem dX5_odds_56 : decode cX5_odds 56 = .ok (.invokevirtual 69, 3) := by decide +kernel
theorem dX5_odds_59 : decode cX5_odds 59 = .ok (.iload_n 1, 1) := by decide +kernel
theorem dX5_odds_60 : decode cX5_odds 60 = .ok (.ishr, 1) := by decide +kernel
theorem dX5_odds_61 : decode cX5_odds 61 = .ok (.iconst 1, 1) := by decide +kernel
theorem dX5_odds_62 : decode cX5_odds 62 = .ok (.iand, 1) := by decide +kernel
theorem dX5_odds_63 : decode cX5_odds 63 = .ok (.iadd, 1) := by decide +kernel
theorem dX5_odds_64 : decode cX5_odds 64 = .ok (.istore 4, 2) := by decide +kernel
theorem dX5_odds_66 : decode cX5_odds 66 = .ok (.iinc 5 1, 3) := by decide +kernel
theorem dX5_odds_69 : decode cX5_odds 69 = .ok (.goto (-26), 3) := by decide +kernel
theorem dX5_odds_72 : decode cX5_odds 72 = .ok (.sipush 256, 3) := by decide +kernel
theorem dX5_odds_75 : decode cX5_odds 75 = .ok (.istore 5, 2) := by decide +kernel
theorem dX5_odds_77 : decode cX5_odds 77 = .ok (.iload 4, 2) := by decide +kernel
theorem dX5_odds_79 : decode cX5_odds 79 = .ok (.iconst 2, 1) := by decide +kernel
theorem dX5_odds_80 : decode cX5_odds 80 = .ok (.irem, 1) := by decide +kernel
theorem dX5_odds_81 : decode cX5_odds 81 = .ok (.ifCond .ne 24, 3) := by decide +kernel
theorem dX5_odds_84 : decode cX5_odds 84 = .ok (.iload 5, 2) := by decide +kernel
theorem dX5_odds_86 : decode cX5_odds 86 = .ok (.iconst 1, 1) := by decide +kernel
theorem dX5_odds_87 : decode cX5_odds 87 = .ok (.if_icmp .le 18, 3) := by decide +kernel
theorem dX5_odds_90 : decode cX5_odds 90 = .ok (.iload 4, 2) := by decide +kernel
theorem dX5_odds_92 : decode cX5_odds 92 = .ok (.iconst 2, 1) := by decide +kernel
theorem dX5_odds_93 : decode cX5_odds 93 = .ok (.idiv, 1) := by decide +kernel
theorem dX5_odds_94 : decode cX5_odds 94 = .ok (.istore 4, 2) := by decide +kernel
theorem dX5_odds_96 : decode cX5_odds 96 = .ok (.iload 5, 2) := by decide +kernel
theorem dX5_odds_98 : decode cX5_odds 98 = .ok (.iconst 2, 1) := by decide +kernel
theorem dX5_odds_99 : decode cX5_odds 99 = .ok (.idiv, 1) := by decide +kernel
theorem dX5_odds_100 : decode cX5_odds 100 = .ok (.istore 5, 2) := by decide +kernel
theorem dX5_odds_102 : decode cX5_odds 102 = .ok (.goto (-25), 3) := by decide +kernel
theorem dX5_odds_105 : decode cX5_odds 105 = .ok (.lconst 1, 1) := by decide +kernel
theorem dX5_odds_106 : decode cX5_odds 106 = .ok (.lstore 6, 2) := by decide +kernel
theorem dX5_odds_108 : decode cX5_odds 108 = .ok (.iconst 0, 1) := by decide +kernel
theorem dX5_odds_109 : decode cX5_odds 109 = .ok (.istore 8, 2) := by decide +kernel
theorem dX5_odds_111 : decode cX5_odds 111 = .ok (.iload 8, 2) := by decide +kernel
theorem dX5_odds_113 : decode cX5_odds 113 = .ok (.iload_n 2, 1) := by decide +kernel
theorem dX5_odds_114 : decode cX5_odds 114 = .ok (.if_icmp .ge 27, 3) := by decide +kernel
theorem dX5_odds_117 : decode cX5_odds 117 = .ok (.lload 6, 2) := by decide +kernel
theorem dX5_odds_119 : decode cX5_odds 119 = .ok (.iload_n 3, 1) := by decide +kernel
theorem dX5_odds_120 : decode cX5_odds 120 = .ok (.ifCond .ne 9, 3) := by decide +kernel
theorem dX5_odds_123 : decode cX5_odds 123 = .ok (.iload 4, 2) := by decide +kernel
theorem dX5_odds_125 : decode cX5_odds 125 = .ok (.i2l, 1) := by decide +kernel
theorem dX5_odds_126 : decode cX5_odds 126 = .ok (.goto 6, 3) := by decide +kernel
theorem dX5_odds_129 : decode cX5_odds 129 = .ok (.iload 5, 2) := by decide +kernel
theorem dX5_odds_131 : decode cX5_odds 131 = .ok (.i2l, 1) := by decide +kernel
theorem dX5_odds_132 : decode cX5_odds 132 = .ok (.lmul, 1) := by decide +kernel
theorem dX5_odds_133 : decode cX5_odds 133 = .ok (.lstore 6, 2) := by decide +kernel
theorem dX5_odds_135 : decode cX5_odds 135 = .ok (.iinc 8 1, 3) := by decide +kernel
theorem dX5_odds_138 : decode cX5_odds 138 = .ok (.goto (-27), 3) := by decide +kernel
theorem dX5_odds_141 : decode cX5_odds 141 = .ok (.lload 6, 2) := by decide +kernel
theorem dX5_odds_143 : decode cX5_odds 143 = .ok (.lreturn, 1) := by decide +kernel
theorem dX5_seed_0 : decode cX5_seed 0 = .ok (.aload_n 0, 1) := by decide +kernel
theorem dX5_seed_1 : decode cX5_seed 1 = .ok (.iconst 2, 1) := by decide +kernel
theorem dX5_seed_2 : decode cX5_seed 2 = .ok (.iload_n 1, 1) := by decide +kernel
theorem dX5_seed_3 : decode cX5_seed 3 = .ok (.invokevirtual 105, 3) := by decide +kernel
theorem dX5_seed_6 : decode cX5_seed 6 = .ok (.ireturn, 1) := by decide +kernel
theorem dX5_feed_0 : decode cX5_feed 0 = .ok (.iload_n 2, 1) := by decide +kernel
theorem dX5_feed_1 : decode cX5_feed 1 = .ok (.i2l, 1) := by decide +kernel
theorem dX5_feed_2 : decode cX5_feed 2 = .ok (.lconst 1, 1) := by decide +kernel
theorem dX5_feed_3 : decode cX5_feed 3 = .ok (.ldc2_w 134, 3) := by decide +kernel
theorem dX5_feed_6 : decode cX5_feed 6 = .ok (.invokestatic 42, 3) := by decide +kernel
theorem dX5_feed_9 : decode cX5_feed 9 = .ok (.ifCond .ne 9, 3) := by decide +kernel
theorem dX5_feed_12 : decode cX5_feed 12 = .ok (.aload_n 0, 1) := by decide +kernel
theorem dX5_feed_13 : decode cX5_feed 13 = .ok (.iconst 0, 1) := by decide +kernel
theorem dX5_feed_14 : decode cX5_feed 14 = .ok (.invokevirtual 108, 3) := by decide +kernel
theorem dX5_feed_17 : decode cX5_feed 17 = .ok (.ireturn, 1) := by decide +kernel
theorem dX5_feed_18 : decode cX5_feed 18 = .ok (.aload_n 0, 1) := by decide +kernel
theorem dX5_feed_19 : decode cX5_feed 19 = .ok (.getfield 189, 3) := by decide +kernel
theorem dX5_feed_22 : decode cX5_feed 22 = .ok (.iload_n 2, 1) := by decide +kernel
theorem dX5_feed_23 : decode cX5_feed 23 = .ok (.iadd, 1) := by decide +kernel
theorem dX5_feed_24 : decode cX5_feed 24 = .ok (.bipush 120, 2) := by decide +kernel
theorem dX5_feed_26 : decode cX5_feed 26 = .ok (.if_icmp .le 9, 3) := by decide +kernel
theorem dX5_feed_29 : decode cX5_feed 29 = .ok (.aload_n 0, 1) := by decide +kernel
theorem dX5_feed_30 : decode cX5_feed 30 = .ok (.iconst 1, 1) := by decide +kernel
theorem dX5_feed_31 : decode cX5_feed 31 = .ok (.invokevirtual 108, 3) := by decide +kernel
theorem dX5_feed_34 : decode cX5_feed 34 = .ok (.ireturn, 1) := by decide +kernel
theorem dX5_feed_35 : decode cX5_feed 35 = .ok (.iload_n 2, 1) := by decide +kernel
theorem dX5_feed_36 : decode cX5_feed 36 = .ok (.iconst 1, 1) := by decide +kernel
theorem dX5_feed_37 : decode cX5_feed 37 = .ok (.isub, 1) := by decide +kernel
theorem dX5_feed_38 : decode cX5_feed 38 = .ok (.istore_n 3, 1) := by decide +kernel
theorem dX5_feed_39 : decode cX5_feed 39 = .ok (.iload_n 3, 1) := by decide +kernel
theorem dX5_feed_40 : decode cX5_feed 40 = .ok (.ifCond .lt 35, 3) := by decide +kernel
theorem dX5_feed_43 : decode cX5_feed 43 = .ok (.aload_n 0, 1) := by decide +kernel
theorem dX5_feed_44 : decode cX5_feed 44 = .ok (.getfield 25, 3) := by decide +kernel
theorem dX5_feed_47 : decode cX5_feed 47 = .ok (.aload_n 0, 1) := by decide +kernel
theorem dX5_feed_48 : decode cX5_feed 48 = .ok (.getfield 189, 3) := by decide +kernel
theorem dX5_feed_51 : decode cX5_feed 51 = .ok (.iload_n 1, 1) := by decide +kernel
theorem dX5_feed_52 : decode cX5_feed 52 = .ok (.bipush 8, 2) := by decide +kernel
theorem dX5_feed_54 : decode cX5_feed 54 = .ok (.iload_n 3, 1) := by decide +kernel
theorem dX5_feed_55 : decode cX5_feed 55 = .ok (.imul, 1) := by decide +kernel
theorem dX5_feed_56 : decode cX5_feed 56 = .ok (.ishr, 1) := by decide +kernel
theorem dX5_feed_57 : decode cX5_feed 57 = .ok (.i2b, 1) := by decide +kernel
theorem dX5_feed_58 : decode cX5_feed 58 = .ok (.bastore, 1) := by decide +kernel
theorem dX5_feed_59 : decode cX5_feed 59 = .ok (.aload_n 0, 1) := by decide +kernel
theorem dX5_feed_60 : decode cX5_feed 60 = .ok (.dup, 1) := by decide +kernel
theorem dX5_feed_61 : decode cX5_feed 61 = .ok (.getfield 189, 3) := by decide +kernel
theorem dX5_feed_64 : decode cX5_feed 64 = .ok (.iconst 1, 1) := by decide +kernel
theorem dX5_feed_65 : decode cX5_feed 65 = .ok (.iadd, 1) := by decide +kernel
theorem dX5_feed_66 : decode cX5_feed 66 = .ok (.putfield 189, 3) := by decide +kernel
theorem dX5_feed_69 : decode cX5_feed 69 = .ok (.iinc 3 (-1), 3) := by decide +kernel
theorem dX5_feed_72 : decode cX5_feed 72 = .ok (.goto (-33), 3) := by decide +kernel
theorem dX5_feed_75 : decode cX5_feed 75 = .ok (.aload_n 0, 1) := by decide +kernel
theorem dX5_feed_76 : decode cX5_feed 76 = .ok (.getfield 189, 3) := by decide +kernel
theorem dX5_feed_79 : decode cX5_feed 79 = .ok (.ireturn, 1) := by decide +kernel
theorem dX5_wipe_0 : decode cX5_wipe 0 = .ok (.aload_n 0, 1) := by decide +kernel
theorem dX5_wipe_1 : decode cX5_wipe 1 = .ok (.getfield 189, 3) := by decide +kernel
theorem dX5_wipe_4 : decode cX5_wipe 4 = .ok (.istore_n 1, 1) := by decide +kernel
theorem dX5_wipe_5 : decode cX5_wipe 5 = .ok (.aload_n 0, 1) := by decide +kernel
theorem dX5_wipe_6 : decode cX5_wipe 6 = .ok (.iconst 0, 1) := by decide +kernel
theorem dX5_wipe_7 : decode cX5_wipe 7 = .ok (.putfield 189, 3) := by decide +kernel
theorem dX5_wipe_10 : decode cX5_wipe 10 = .ok (.iload_n 1, 1) := by decide +kernel
theorem dX5_wipe_11 : decode cX5_wipe 11 = .ok (.ireturn, 1) := by decide +kernel
theorem dX5_letter_0 : decode cX5_letter 0 = .ok (.iload_n 0, 1) := by decide +kernel
theorem dX5_letter_1 : decode cX5_letter 1 = .ok (.bipush 97, 2) := by decide +kernel
theorem dX5_letter_3 : decode cX5_letter 3 = .ok (.if_icmp .lt 18, 3) := by decide +kernel
theorem dX5_letter_6 : decode cX5_letter 6 = .ok (.iload_n 0, 1) := by decide +kernel
theorem dX5_letter_7 : decode cX5_letter 7 = .ok (.bipush 122, 2) := by decide +kernel
theorem dX5_letter_9 : decode cX5_letter 9 = .ok (.if_icmp .gt 12, 3) := by decide +kernel
theorem dX5_letter_12 : decode cX5_letter 12 = .ok (.iload_n 0, 1) := by decide +kernel
theorem dX5_letter_13 : decode cX5_letter 13 = .ok (.bipush 97, 2) := by decide +kernel
theorem dX5_letter_15 : decode cX5_letter 15 = .ok (.isub, 1) := by decide +kernel
theorem dX5_letter_16 : decode cX5_letter 16 = .ok (.iconst 1, 1) := by decide +kernel
theorem dX5_letter_17 : decode cX5_letter 17 = .ok (.iadd, 1) := by decide +kernel
theorem dX5_letter_18 : decode cX5_letter 18 = .ok (.goto 4, 3) := by decide +kernel
theorem dX5_letter_21 : decode cX5_letter 21 = .ok (.iconst 0, 1) := by decide +kernel
theorem dX5_letter_22 : decode cX5_letter 22 = .ok (.ireturn, 1) := by decide +kernel
theorem dX5_isDigit_0 : decode cX5_isDigit 0 = .ok (.iload_n 0, 1) := by decide +kernel
theorem dX5_isDigit_1 : decode cX5_isDigit 1 = .ok (.bipush 48, 2) := by decide +kernel
theorem dX5_isDigit_3 : decode cX5_isDigit 3 = .ok (.if_icmp .lt 13, 3) := by decide +kernel
theorem dX5_isDigit_6 : decode cX5_isDigit 6 = .ok (.iload_n 0, 1) := by decide +kernel
theorem dX5_isDigit_7 : decode cX5_isDigit 7 = .ok (.bipush 57, 2) := by decide +kernel
theorem dX5_isDigit_9 : decode cX5_isDigit 9 = .ok (.if_icmp .gt 7, 3) := by decide +kernel
theorem dX5_isDigit_12 : decode cX5_isDigit 12 = .ok (.iconst 1, 1) := by decide +kernel
theorem dX5_isDigit_13 : decode cX5_isDigit 13 = .ok (.goto 4, 3) := by decide +kernel
theorem dX5_isDigit_16 : decode cX5_isDigit 16 = .ok (.iconst 0, 1) := by decide +kernel
theorem dX5_isDigit_17 : decode cX5_isDigit 17 = .ok (.ireturn, 1) := by decide +kernel
theorem dX5_byteAt_0 : decode cX5_byteAt 0 = .ok (.iload_n 1, 1) := by decide +kernel
theorem dX5_byteAt_1 : decode cX5_byteAt 1 = .ok (.aload_n 0, 1) := by decide +kernel
theorem dX5_byteAt_2 : decode cX5_byteAt 2 = .ok (.getfield 189, 3) := by decide +kernel
theorem dX5_byteAt_5 : decode cX5_byteAt 5 = .ok (.if_icmp .ge 12, 3) := by decide +kernel
theorem dX5_byteAt_8 : decode cX5_byteAt 8 = .ok (.aload_n 0, 1) := by decide +kernel
theorem dX5_byteAt_9 : decode cX5_byteAt 9 = .ok (.getfield 25, 3) := by decide +kernel
theorem dX5_byteAt_12 : decode cX5_byteAt 12 = .ok (.iload_n 1, 1) := by decide +kernel
theorem dX5_byteAt_13 : decode cX5_byteAt 13 = .ok (.baload, 1) := by decide +kernel
theorem dX5_byteAt_14 : decode cX5_byteAt 14 = .ok (.goto 4, 3) := by decide +kernel
theorem dX5_byteAt_17 : decode cX5_byteAt 17 = .ok (.iconst (-1), 1) := by decide +kernel
theorem dX5_byteAt_18 : decode cX5_byteAt 18 = .ok (.ireturn, 1) := by decide +kernel
theorem dX5_next_0 : decode cX5_next 0 = .ok (.aload_n 0, 1) := by decide +kernel
theorem dX5_next_1 : decode cX5_next 1 = .ok (.aload_n 0, 1) := by decide +kernel
theorem dX5_next_2 : decode cX5_next 2 = .ok (.getfield 193, 3) := by decide +kernel
theorem dX5_next_5 : decode cX5_next 5 = .ok (.invokevirtual 196, 3) := by decide +kernel
theorem dX5_next_8 : decode cX5_next 8 = .ok (.bipush 32, 2) := by decide +kernel
theorem dX5_next_10 : decode cX5_next 10 = .ok (.if_icmp .ne 16, 3) := by decide +kernel
theorem dX5_next_13 : decode cX5_next 13 = .ok (.aload_n 0, 1) := by decide +kernel
theorem dX5_next_14 : decode cX5_next 14 = .ok (.dup, 1) := by decide +kernel
theorem dX5_next_15 : decode cX5_next 15 = .ok (.getfield 193, 3) := by decide +kernel
theorem dX5_next_18 : decode cX5_next 18 = .ok (.iconst 1, 1) := by decide +kernel
theorem dX5_next_19 : decode cX5_next 19 = .ok (.iadd, 1) := by decide +kernel
theorem dX5_next_20 : decode cX5_next 20 = .ok (.putfield 193, 3) := by decide +kernel
theorem dX5_next_23 : decode cX5_next 23 = .ok (.goto (-23), 3) := by decide +kernel
theorem dX5_next_26 : decode cX5_next 26 = .ok (.aload_n 0, 1) := by decide +kernel
theorem dX5_next_27 : decode cX5_next 27 = .ok (.aload_n 0, 1) := by decide +kernel
theorem dX5_next_28 : decode cX5_next 28 = .ok (.getfield 193, 3) := by decide +kernel
theorem dX5_next_31 : decode cX5_next 31 = .ok (.putfield 199, 3) := by decide +kernel
theorem dX5_next_34 : decode cX5_next 34 = .ok (.aload_n 0, 1) := by decide +kernel
theorem dX5_next_35 : decode cX5_next 35 = .ok (.lconst 0, 1) := by decide +kernel
theorem dX5_next_36 : decode cX5_next 36 = .ok (.putfield 202, 3) := by decide +kernel
theorem dX5_next_39 : decode cX5_next 39 = .ok (.aload_n 0, 1) := by decide +kernel
theorem dX5_next_40 : decode cX5_next 40 = .ok (.aload_n 0, 1) := by decide +kernel
theorem dX5_next_41 : decode cX5_next 41 = .ok (.getfield 193, 3) := by decide +kernel
theorem dX5_next_44 : decode cX5_next 44 = .ok (.invokevirtual 196, 3) := by decide +kernel
theorem dX5_next_47 : decode cX5_next 47 = .ok (.istore_n 1, 1) := by decide +kernel
theorem dX5_next_48 : decode cX5_next 48 = .ok (.aload_n 0, 1) := by decide +kernel
theorem dX5_next_49 : decode cX5_next 49 = .ok (.getfield 193, 3) := by decide +kernel
theorem dX5_next_52 : decode cX5_next 52 = .ok (.aload_n 0, 1) := by decide +kernel
theorem dX5_next_53 : decode cX5_next 53 = .ok (.getfield 189, 3) := by decide +kernel
theorem dX5_next_56 : decode cX5_next 56 = .ok (.if_icmp .ne 11, 3) := by decide +kernel
theorem dX5_next_59 : decode cX5_next 59 = .ok (.aload_n 0, 1) := by decide +kernel
theorem dX5_next_60 : decode cX5_next 60 = .ok (.iconst 0, 1) := by decide +kernel
theorem dX5_next_61 : decode cX5_next 61 = .ok (.putfield 206, 3) := by decide +kernel
theorem dX5_next_64 : decode cX5_next 64 = .ok (.goto 197, 3) := by decide +kernel
theorem dX5_next_67 : decode cX5_next 67 = .ok (.iload_n 1, 1) := by decide +kernel
theorem dX5_next_68 : decode cX5_next 68 = .ok (.bipush 59, 2) := by decide +kernel
theorem dX5_next_70 : decode cX5_next 70 = .ok (.if_icmp .ne 21, 3) := by decide +kernel
theorem dX5_next_73 : decode cX5_next 73 = .ok (.aload_n 0, 1) := by decide +kernel
theorem dX5_next_74 : decode cX5_next 74 = .ok (.iconst 3, 1) := by decide +kernel
theorem dX5_next_75 : decode cX5_next 75 = .ok (.putfield 206, 3) := by decide +kernel
theorem dX5_next_78 : decode cX5_next 78 = .ok (.aload_n 0, 1) := by decide +kernel
theorem dX5_next_79 : decode cX5_next 79 = .ok (.dup, 1) := by decide +kernel
theorem dX5_next_80 : decode cX5_next 80 = .ok (.getfield 193, 3) := by decide +kernel
theorem dX5_next_83 : decode cX5_next 83 = .ok (.iconst 1, 1) := by decide +kernel
theorem dX5_next_84 : decode cX5_next 84 = .ok (.iadd, 1) := by decide +kernel
theorem dX5_next_85 : decode cX5_next 85 = .ok (.putfield 193, 3) := by decide +kernel
theorem dX5_next_88 : decode cX5_next 88 = .ok (.goto 173, 3) := by decide +kernel
theorem dX5_next_91 : decode cX5_next 91 = .ok (.iload_n 1, 1) := by decide +kernel
theorem dX5_next_92 : decode cX5_next 92 = .ok (.invokestatic 209, 3) := by decide +kernel
theorem dX5_next_95 : decode cX5_next 95 = .ok (.ifCond .le 78, 3) := by decide +kernel
theorem dX5_next_98 : decode cX5_next 98 = .ok (.aload_n 0, 1) := by decide +kernel
theorem dX5_next_99 : decode cX5_next 99 = .ok (.iconst 1, 1) := by decide +kernel
theorem dX5_next_100 : decode cX5_next 100 = .ok (.putfield 206, 3) := by decide +kernel
theorem dX5_next_103 : decode cX5_next 103 = .ok (.aload_n 0, 1) := by decide +kernel
theorem dX5_next_104 : decode cX5_next 104 = .ok (.aload_n 0, 1) := by decide +kernel
theorem dX5_next_105 : decode cX5_next 105 = .ok (.getfield 193, 3) := by decide +kernel
theorem dX5_next_108 : decode cX5_next 108 = .ok (.invokevirtual 196, 3) := by decide +kernel
theorem dX5_next_111 : decode cX5_next 111 = .ok (.invokestatic 209, 3) := by decide +kernel
theorem dX5_next_114 : decode cX5_next 114 = .ok (.ifCond .le 147, 3) := by decide +kernel
theorem dX5_next_117 : decode cX5_next 117 = .ok (.aload_n 0, 1) := by decide +kernel
theorem dX5_next_118 : decode cX5_next 118 = .ok (.aload_n 0, 1) := by decide +kernel
theorem dX5_next_119 : decode cX5_next 119 = .ok (.getfield 202, 3) := by decide +kernel
theorem dX5_next_122 : decode cX5_next 122 = .ok (.ldc2_w 212, 3) := by decide +kernel
theorem dX5_next_125 : decode cX5_next 125 = .ok (.lcmp, 1) := by decide +kernel
theorem dX5_next_126 : decode cX5_next 126 = .ok (.ifCond .le 10, 3) := by decide +kernel
theorem dX5_next_129 : decode cX5_next 129 = .ok (.aload_n 0, 1) := by decide +kernel
theorem dX5_next_130 : decode cX5_next 130 = .ok (.getfield 202, 3) := by decide +kernel
theorem dX5_next_133 : decode cX5_next 133 = .ok (.goto 24, 3) := by decide +kernel
theorem dX5_next_136 : decode cX5_next 136 = .ok (.aload_n 0, 1) := by decide +kernel
theorem dX5_next_137 : decode cX5_next 137 = .ok (.getfield 202, 3) := by decide +kernel
theorem dX5_next_140 : decode cX5_next 140 = .ok (.ldc2_w 214, 3) := by decide +kernel
theorem dX5_next_143 : decode cX5_next 143 = .ok (.lmul, 1) := by decide +kernel
theorem dX5_next_144 : decode cX5_next 144 = .ok (.aload_n 0, 1) := by decide +kernel
theorem dX5_next_145 : decode cX5_next 145 = .ok (.aload_n 0, 1) := by decide +kernel
theorem dX5_next_146 : decode cX5_next 146 = .ok (.getfield 193, 3) := by decide +kernel
theorem dX5_next_149 : decode cX5_next 149 = .ok (.invokevirtual 196, 3) := by decide +kernel
theorem dX5_next_152 : decode cX5_next 152 = .ok (.invokestatic 209, 3) := by decide +kernel
theorem dX5_next_155 : decode cX5_next 155 = .ok (.i2l, 1) := by decide +kernel
theorem dX5_next_156 : decode cX5_next 156 = .ok (.ladd, 1) := by decide +kernel
theorem dX5_next_157 : decode cX5_next 157 = .ok (.putfield 202, 3) := by decide +kernel
theorem dX5_next_160 : decode cX5_next 160 = .ok (.aload_n 0, 1) := by decide +kernel
theorem dX5_next_161 : decode cX5_next 161 = .ok (.dup, 1) := by decide +kernel
theorem dX5_next_162 : decode cX5_next 162 = .ok (.getfield 193, 3) := by decide +kernel
theorem dX5_next_165 : decode cX5_next 165 = .ok (.iconst 1, 1) := by decide +kernel
theorem dX5_next_166 : decode cX5_next 166 = .ok (.iadd, 1) := by decide +kernel
theorem dX5_next_167 : decode cX5_next 167 = .ok (.putfield 193, 3) := by decide +kernel
theorem dX5_next_170 : decode cX5_next 170 = .ok (.goto (-67), 3) := by decide +kernel
theorem dX5_next_173 : decode cX5_next 173 = .ok (.iload_n 1, 1) := by decide +kernel
theorem dX5_next_174 : decode cX5_next 174 = .ok (.invokestatic 216, 3) := by decide +kernel
theorem dX5_next_177 : decode cX5_next 177 = .ok (.ifCond .eq 79, 3) := by decide +kernel
theorem dX5_next_180 : decode cX5_next 180 = .ok (.aload_n 0, 1) := by decide +kernel
theorem dX5_next_181 : decode cX5_next 181 = .ok (.iconst 2, 1) := by decide +kernel
theorem dX5_next_182 : decode cX5_next 182 = .ok (.putfield 206, 3) := by decide +kernel
theorem dX5_next_185 : decode cX5_next 185 = .ok (.aload_n 0, 1) := by decide +kernel
theorem dX5_next_186 : decode cX5_next 186 = .ok (.aload_n 0, 1) := by decide +kernel
theorem dX5_next_187 : decode cX5_next 187 = .ok (.getfield 193, 3) := by decide +kernel
theorem dX5_next_190 : decode cX5_next 190 = .ok (.invokevirtual 196, 3) := by decide +kernel
theorem dX5_next_193 : decode cX5_next 193 = .ok (.invokestatic 216, 3) := by decide +kernel
theorem dX5_next_196 : decode cX5_next 196 = .ok (.ifCond .eq 65, 3) := by decide +kernel
theorem dX5_next_199 : decode cX5_next 199 = .ok (.aload_n 0, 1) := by decide +kernel
theorem dX5_next_200 : decode cX5_next 200 = .ok (.aload_n 0, 1) := by decide +kernel
theorem dX5_next_201 : decode cX5_next 201 = .ok (.getfield 202, 3) := by decide +kernel
theorem dX5_next_204 : decode cX5_next 204 = .ok (.ldc2_w 132, 3) := by decide +kernel
theorem dX5_next_207 : decode cX5_next 207 = .ok (.lcmp, 1) := by decide +kernel
theorem dX5_next_208 : decode cX5_next 208 = .ok (.ifCond .le 10, 3) := by decide +kernel
theorem dX5_next_211 : decode cX5_next 211 = .ok (.aload_n 0, 1) := by decide +kernel
theorem dX5_next_212 : decode cX5_next 212 = .ok (.getfield 202, 3) := by decide +kernel
theorem dX5_next_215 : decode cX5_next 215 = .ok (.goto 25, 3) := by decide +kernel
theorem dX5_next_218 : decode cX5_next 218 = .ok (.aload_n 0, 1) := by decide +kernel
theorem dX5_next_219 : decode cX5_next 219 = .ok (.getfield 202, 3) := by decide +kernel
theorem dX5_next_222 : decode cX5_next 222 = .ok (.ldc2_w 219, 3) := by decide +kernel
theorem dX5_next_225 : decode cX5_next 225 = .ok (.lmul, 1) := by decide +kernel
theorem dX5_next_226 : decode cX5_next 226 = .ok (.aload_n 0, 1) := by decide +kernel
theorem dX5_next_227 : decode cX5_next 227 = .ok (.aload_n 0, 1) := by decide +kernel
theorem dX5_next_228 : decode cX5_next 228 = .ok (.getfield 193, 3) := by decide +kernel
theorem dX5_next_231 : decode cX5_next 231 = .ok (.invokevirtual 196, 3) := by decide +kernel
theorem dX5_next_234 : decode cX5_next 234 = .ok (.i2l, 1) := by decide +kernel
theorem dX5_next_235 : decode cX5_next 235 = .ok (.ladd, 1) := by decide +kernel
theorem dX5_next_236 : decode cX5_next 236 = .ok (.ldc2_w 221, 3) := by decide +kernel
theorem dX5_next_239 : decode cX5_next 239 = .ok (.lsub, 1) := by decide +kernel
theorem dX5_next_240 : decode cX5_next 240 = .ok (.putfield 202, 3) := by decide +kernel
theorem dX5_next_243 : decode cX5_next 243 = .ok (.aload_n 0, 1) := by decide +kernel
theorem dX5_next_244 : decode cX5_next 244 = .ok (.dup, 1) := by decide +kernel
theorem dX5_next_245 : decode cX5_next 245 = .ok (.getfield 193, 3) := by decide +kernel
theorem dX5_next_248 : decode cX5_next 248 = .ok (.iconst 1, 1) := by decide +kernel
theorem dX5_next_249 : decode cX5_next 249 = .ok (.iadd, 1) := by decide +kernel
theorem dX5_next_250 : decode cX5_next 250 = .ok (.putfield 193, 3) := by decide +kernel
theorem dX5_next_253 : decode cX5_next 253 = .ok (.goto (-68), 3) := by decide +kernel
theorem dX5_next_256 : decode cX5_next 256 = .ok (.aload_n 0, 1) := by decide +kernel
theorem dX5_next_257 : decode cX5_next 257 = .ok (.iconst 4, 1) := by decide +kernel
theorem dX5_next_258 : decode cX5_next 258 = .ok (.putfield 206, 3) := by decide +kernel
theorem dX5_next_261 : decode cX5_next 261 = .ok (.return_, 1) := by decide +kernel
theorem dX5_wrongHere_0 : decode cX5_wrongHere 0 = .ok (.aload_n 0, 1) := by decide +kernel
theorem dX5_wrongHere_1 : decode cX5_wrongHere 1 = .ok (.aload_n 0, 1) := by decide +kernel
theorem dX5_wrongHere_2 : decode cX5_wrongHere 2 = .ok (.getfield 223, 3) := by decide +kernel
theorem dX5_wrongHere_5 : decode cX5_wrongHere 5 = .ok (.ifCond .ge 10, 3) := by decide +kernel
theorem dX5_wrongHere_8 : decode cX5_wrongHere 8 = .ok (.aload_n 0, 1) := by decide +kernel
theorem dX5_wrongHere_9 : decode cX5_wrongHere 9 = .ok (.getfield 199, 3) := by decide +kernel
theorem dX5_wrongHere_12 : decode cX5_wrongHere 12 = .ok (.goto 7, 3) := by decide +kernel
theorem dX5_wrongHere_15 : decode cX5_wrongHere 15 = .ok (.aload_n 0, 1) := by decide +kernel
theorem dX5_wrongHere_16 : decode cX5_wrongHere 16 = .ok (.getfield 223, 3) := by decide +kernel
theorem dX5_wrongHere_19 : decode cX5_wrongHere 19 = .ok (.putfield 223, 3) := by decide +kernel
theorem dX5_wrongHere_22 : decode cX5_wrongHere 22 = .ok (.return_, 1) := by decide +kernel
theorem dX5_isWord_0 : decode cX5_isWord 0 = .ok (.aload_n 0, 1) := by decide +kernel
theorem dX5_isWord_1 : decode cX5_isWord 1 = .ok (.getfield 206, 3) := by decide +kernel
theorem dX5_isWord_4 : decode cX5_isWord 4 = .ok (.iconst 1, 1) := by decide +kernel
theorem dX5_isWord_5 : decode cX5_isWord 5 = .ok (.if_icmp .ne 16, 3) := by decide +kernel
theorem dX5_isWord_8 : decode cX5_isWord 8 = .ok (.aload_n 0, 1) := by decide +kernel
theorem dX5_isWord_9 : decode cX5_isWord 9 = .ok (.getfield 202, 3) := by decide +kernel
theorem dX5_isWord_12 : decode cX5_isWord 12 = .ok (.lload_n 1, 1) := by decide +kernel
theorem dX5_isWord_13 : decode cX5_isWord 13 = .ok (.lcmp, 1) := by decide +kernel
theorem dX5_isWord_14 : decode cX5_isWord 14 = .ok (.ifCond .ne 7, 3) := by decide +kernel
theorem dX5_isWord_17 : decode cX5_isWord 17 = .ok (.iconst 1, 1) := by decide +kernel
theorem dX5_isWord_18 : decode cX5_isWord 18 = .ok (.goto 4, 3) := by decide +kernel
theorem dX5_isWord_21 : decode cX5_isWord 21 = .ok (.iconst 0, 1) := by decide +kernel
theorem dX5_isWord_22 : decode cX5_isWord 22 = .ok (.ireturn, 1) := by decide +kernel
theorem dX5_kindHere_0 : decode cX5_kindHere 0 = .ok (.aload_n 0, 1) := by decide +kernel
theorem dX5_kindHere_1 : decode cX5_kindHere 1 = .ok (.ldc2_w 226, 3) := by decide +kernel
theorem dX5_kindHere_4 : decode cX5_kindHere 4 = .ok (.invokevirtual 228, 3) := by decide +kernel
theorem dX5_kindHere_7 : decode cX5_kindHere 7 = .ok (.ifCond .eq 7, 3) := by decide +kernel
theorem dX5_kindHere_10 : decode cX5_kindHere 10 = .ok (.iconst 0, 1) := by decide +kernel
theorem dX5_kindHere_11 : decode cX5_kindHere 11 = .ok (.goto 89, 3) := by decide +kernel
theorem dX5_kindHere_14 : decode cX5_kindHere 14 = .ok (.aload_n 0, 1) := by decide +kernel
theorem dX5_kindHere_15 : decode cX5_kindHere 15 = .ok (.ldc2_w 232, 3) := by decide +kernel
theorem dX5_kindHere_18 : decode cX5_kindHere 18 = .ok (.invokevirtual 228, 3) := by decide +kernel
theorem dX5_kindHere_21 : decode cX5_kindHere 21 = .ok (.ifCond .eq 7, 3) := by decide +kernel
theorem dX5_kindHere_24 : decode cX5_kindHere 24 = .ok (.iconst 1, 1) := by decide +kernel
theorem dX5_kindHere_25 : decode cX5_kindHere 25 = .ok (.goto 75, 3) := by decide +kernel
theorem dX5_kindHere_28 : decode cX5_kindHere 28 = .ok (.aload_n 0, 1) := by decide +kernel
theorem dX5_kindHere_29 : decode cX5_kindHere 29 = .ok (.ldc2_w 234, 3) := by decide +kernel
theorem dX5_kindHere_32 : decode cX5_kindHere 32 = .ok (.invokevirtual 228, 3) := by decide +kernel
theorem dX5_kindHere_35 : decode cX5_kindHere 35 = .ok (.ifCond .eq 7, 3) := by decide +kernel
theorem dX5_kindHere_38 : decode cX5_kindHere 38 = .ok (.iconst 2, 1) := by decide +kernel
theorem dX5_kindHere_39 : decode cX5_kindHere 39 = .ok (.goto 61, 3) := by decide +kernel
theorem dX5_kindHere_42 : decode cX5_kindHere 42 = .ok (.aload_n 0, 1) := by decide +kernel
theorem dX5_kindHere_43 : decode cX5_kindHere 43 = .ok (.ldc2_w 236, 3) := by decide +kernel
theorem dX5_kindHere_46 : decode cX5_kindHere 46 = .ok (.invokevirtual 228, 3) := by decide +kernel
theorem dX5_kindHere_49 : decode cX5_kindHere 49 = .ok (.ifCond .eq 7, 3) := by decide +kernel
theorem dX5_kindHere_52 : decode cX5_kindHere 52 = .ok (.iconst 3, 1) := by decide +kernel
theorem dX5_kindHere_53 : decode cX5_kindHere 53 = .ok (.goto 47, 3) := by decide +kernel
theorem dX5_kindHere_56 : decode cX5_kindHere 56 = .ok (.aload_n 0, 1) := by decide +kernel
theorem dX5_kindHere_57 : decode cX5_kindHere 57 = .ok (.ldc2_w 238, 3) := by decide +kernel
theorem dX5_kindHere_60 : decode cX5_kindHere 60 = .ok (.invokevirtual 228, 3) := by decide +kernel
theorem dX5_kindHere_63 : decode cX5_kindHere 63 = .ok (.ifCond .eq 7, 3) := by decide +kernel
theorem dX5_kindHere_66 : decode cX5_kindHere 66 = .ok (.iconst 4, 1) := by decide +kernel
theorem dX5_kindHere_67 : decode cX5_kindHere 67 = .ok (.goto 33, 3) := by decide +kernel
theorem dX5_kindHere_70 : decode cX5_kindHere 70 = .ok (.aload_n 0, 1) := by decide +kernel
theorem dX5_kindHere_71 : decode cX5_kindHere 71 = .ok (.ldc2_w 240, 3) := by decide +kernel
theorem dX5_kindHere_74 : decode cX5_kindHere 74 = .ok (.invokevirtual 228, 3) := by decide +kernel
theorem dX5_kindHere_77 : decode cX5_kindHere 77 = .ok (.ifCond .eq 7, 3) := by decide +kernel
theorem dX5_kindHere_80 : decode cX5_kindHere 80 = .ok (.iconst 5, 1) := by decide +kernel
theorem dX5_kindHere_81 : decode cX5_kindHere 81 = .ok (.goto 19, 3) := by decide +kernel
theorem dX5_kindHere_84 : decode cX5_kindHere 84 = .ok (.aload_n 0, 1) := by decide +kernel
theorem dX5_kindHere_85 : decode cX5_kindHere 85 = .ok (.ldc2_w 242, 3) := by decide +kernel
theorem dX5_kindHere_88 : decode cX5_kindHere 88 = .ok (.invokevirtual 228, 3) := by decide +kernel
theorem dX5_kindHere_91 : decode cX5_kindHere 91 = .ok (.ifCond .eq 8, 3) := by decide +kernel
theorem dX5_kindHere_94 : decode cX5_kindHere 94 = .ok (.bipush 6, 2) := by decide +kernel
theorem dX5_kindHere_96 : decode cX5_kindHere 96 = .ok (.goto 4, 3) := by decide +kernel
theorem dX5_kindHere_99 : decode cX5_kindHere 99 = .ok (.iconst (-1), 1) := by decide +kernel
theorem dX5_kindHere_100 : decode cX5_kindHere 100 = .ok (.ireturn, 1) := by decide +kernel
theorem dX5_setHere_0 : decode cX5_setHere 0 = .ok (.aload_n 0, 1) := by decide +kernel
theorem dX5_setHere_1 : decode cX5_setHere 1 = .ok (.ldc2_w 244, 3) := by decide +kernel
theorem dX5_setHere_4 : decode cX5_setHere 4 = .ok (.invokevirtual 228, 3) := by decide +kernel
theorem dX5_setHere_7 : decode cX5_setHere 7 = .ok (.ifCond .eq 7, 3) := by decide +kernel
theorem dX5_setHere_10 : decode cX5_setHere 10 = .ok (.iconst 0, 1) := by decide +kernel
theorem dX5_setHere_11 : decode cX5_setHere 11 = .ok (.goto 46, 3) := by decide +kernel
theorem dX5_setHere_14 : decode cX5_setHere 14 = .ok (.aload_n 0, 1) := by decide +kernel
theorem dX5_setHere_15 : decode cX5_setHere 15 = .ok (.ldc2_w 246, 3) := by decide +kernel
theorem dX5_setHere_18 : decode cX5_setHere 18 = .ok (.invokevirtual 228, 3) := by decide +kernel
theorem dX5_setHere_21 : decode cX5_setHere 21 = .ok (.ifCond .eq 7, 3) := by decide +kernel
theorem dX5_setHere_24 : decode cX5_setHere 24 = .ok (.iconst 1, 1) := by decide +kernel
theorem dX5_setHere_25 : decode cX5_setHere 25 = .ok (.goto 32, 3) := by decide +kernel
theorem dX5_setHere_28 : decode cX5_setHere 28 = .ok (.aload_n 0, 1) := by decide +kernel
theorem dX5_setHere_29 : decode cX5_setHere 29 = .ok (.ldc2_w 248, 3) := by decide +kernel
theorem dX5_setHere_32 : decode cX5_setHere 32 = .ok (.invokevirtual 228, 3) := by decide +kernel
theorem dX5_setHere_35 : decode cX5_setHere 35 = .ok (.ifCond .eq 7, 3) := by decide +kernel
theorem dX5_setHere_38 : decode cX5_setHere 38 = .ok (.iconst 2, 1) := by decide +kernel
theorem dX5_setHere_39 : decode cX5_setHere 39 = .ok (.goto 18, 3) := by decide +kernel
theorem dX5_setHere_42 : decode cX5_setHere 42 = .ok (.aload_n 0, 1) := by decide +kernel
theorem dX5_setHere_43 : decode cX5_setHere 43 = .ok (.ldc2_w 250, 3) := by decide +kernel
theorem dX5_setHere_46 : decode cX5_setHere 46 = .ok (.invokevirtual 228, 3) := by decide +kernel
theorem dX5_setHere_49 : decode cX5_setHere 49 = .ok (.ifCond .eq 7, 3) := by decide +kernel
theorem dX5_setHere_52 : decode cX5_setHere 52 = .ok (.iconst 3, 1) := by decide +kernel
theorem dX5_setHere_53 : decode cX5_setHere 53 = .ok (.goto 4, 3) := by decide +kernel
theorem dX5_setHere_56 : decode cX5_setHere 56 = .ok (.iconst (-1), 1) := by decide +kernel
theorem dX5_setHere_57 : decode cX5_setHere 57 = .ok (.ireturn, 1) := by decide +kernel
theorem dX5_numberHere_0 : decode cX5_numberHere 0 = .ok (.aload_n 0, 1) := by decide +kernel
theorem dX5_numberHere_1 : decode cX5_numberHere 1 = .ok (.getfield 202, 3) := by decide +kernel
theorem dX5_numberHere_4 : decode cX5_numberHere 4 = .ok (.l2i, 1) := by decide +kernel
theorem dX5_numberHere_5 : decode cX5_numberHere 5 = .ok (.istore_n 3, 1) := by decide +kernel
theorem dX5_numberHere_6 : decode cX5_numberHere 6 = .ok (.aload_n 0, 1) := by decide +kernel
theorem dX5_numberHere_7 : decode cX5_numberHere 7 = .ok (.getfield 206, 3) := by decide +kernel
theorem dX5_numberHere_10 : decode cX5_numberHere 10 = .ok (.iconst 2, 1) := by decide +kernel
theorem dX5_numberHere_11 : decode cX5_numberHere 11 = .ok (.if_icmp .ne 17, 3) := by decide +kernel
theorem dX5_numberHere_14 : decode cX5_numberHere 14 = .ok (.aload_n 0, 1) := by decide +kernel
theorem dX5_numberHere_15 : decode cX5_numberHere 15 = .ok (.getfield 202, 3) := by decide +kernel
theorem dX5_numberHere_18 : decode cX5_numberHere 18 = .ok (.iload_n 1, 1) := by decide +kernel
theorem dX5_numberHere_19 : decode cX5_numberHere 19 = .ok (.i2l, 1) := by decide +kernel
theorem dX5_numberHere_20 : decode cX5_numberHere 20 = .ok (.iload_n 2, 1) := by decide +kernel
theorem dX5_numberHere_21 : decode cX5_numberHere 21 = .ok (.i2l, 1) := by decide +kernel
theorem dX5_numberHere_22 : decode cX5_numberHere 22 = .ok (.invokestatic 42, 3) := by decide +kernel
theorem dX5_numberHere_25 : decode cX5_numberHere 25 = .ok (.ifCond .ne 9, 3) := by decide +kernel
theorem dX5_numberHere_28 : decode cX5_numberHere 28 = .ok (.aload_n 0, 1) := by decide +kernel
theorem dX5_numberHere_29 : decode cX5_numberHere 29 = .ok (.invokevirtual 252, 3) := by decide +kernel
theorem dX5_numberHere_32 : decode cX5_numberHere 32 = .ok (.iconst 0, 1) := by decide +kernel
theorem dX5_numberHere_33 : decode cX5_numberHere 33 = .ok (.ireturn, 1) := by decide +kernel
theorem dX5_numberHere_34 : decode cX5_numberHere 34 = .ok (.aload_n 0, 1) := by decide +kernel
theorem dX5_numberHere_35 : decode cX5_numberHere 35 = .ok (.invokevirtual 255, 3) := by decide +kernel
theorem dX5_numberHere_38 : decode cX5_numberHere 38 = .ok (.iload_n 3, 1) := by decide +kernel
theorem dX5_numberHere_39 : decode cX5_numberHere 39 = .ok (.ireturn, 1) := by decide +kernel
theorem dX5_perhaps_0 : decode cX5_perhaps 0 = .ok (.aload_n 0, 1) := by decide +kernel
theorem dX5_perhaps_1 : decode cX5_perhaps 1 = .ok (.getfield 223, 3) := by decide +kernel
theorem dX5_perhaps_4 : decode cX5_perhaps 4 = .ok (.ifCond .ge 40, 3) := by decide +kernel
theorem dX5_perhaps_7 : decode cX5_perhaps 7 = .ok (.aload_n 0, 1) := by decide +kernel
theorem dX5_perhaps_8 : decode cX5_perhaps 8 = .ok (.lload_n 1, 1) := by decide +kernel
theorem dX5_perhaps_9 : decode cX5_perhaps 9 = .ok (.invokevirtual 228, 3) := by decide +kernel
theorem dX5_perhaps_12 : decode cX5_perhaps 12 = .ok (.ifCond .eq 32, 3) := by decide +kernel
theorem dX5_perhaps_15 : decode cX5_perhaps 15 = .ok (.aload_n 0, 1) := by decide +kernel
theorem dX5_perhaps_16 : decode cX5_perhaps 16 = .ok (.invokevirtual 255, 3) := by decide +kernel
theorem dX5_perhaps_19 : decode cX5_perhaps 19 = .ok (.aload_n 0, 1) := by decide +kernel
theorem dX5_perhaps_20 : decode cX5_perhaps 20 = .ok (.iconst 0, 1) := by decide +kernel
theorem dX5_perhaps_21 : decode cX5_perhaps 21 = .ok (.iload 5, 2) := by decide +kernel
theorem dX5_perhaps_23 : decode cX5_perhaps 23 = .ok (.invokevirtual 258, 3) := by decide +kernel
theorem dX5_perhaps_26 : decode cX5_perhaps 26 = .ok (.istore 6, 2) := by decide +kernel
theorem dX5_perhaps_28 : decode cX5_perhaps 28 = .ok (.aload_n 0, 1) := by decide +kernel
theorem dX5_perhaps_29 : decode cX5_perhaps 29 = .ok (.getfield 223, 3) := by decide +kernel
theorem dX5_perhaps_32 : decode cX5_perhaps 32 = .ok (.ifCond .ge 12, 3) := by decide +kernel
theorem dX5_perhaps_35 : decode cX5_perhaps 35 = .ok (.aload_n 0, 1) := by decide +kernel
theorem dX5_perhaps_36 : decode cX5_perhaps 36 = .ok (.iload_n 3, 1) := by decide +kernel
theorem dX5_perhaps_37 : decode cX5_perhaps 37 = .ok (.iload 4, 2) := by decide +kernel
theorem dX5_perhaps_39 : decode cX5_perhaps 39 = .ok (.iload 6, 2) := by decide +kernel
theorem dX5_perhaps_41 : decode cX5_perhaps 41 = .ok (.invokevirtual 87, 3) := by decide +kernel
theorem dX5_perhaps_44 : decode cX5_perhaps 44 = .ok (.return_, 1) := by decide +kernel
theorem dX5_residentHere_0 : decode cX5_residentHere 0 = .ok (.aload_n 0, 1) := by decide +kernel
theorem dX5_residentHere_1 : decode cX5_residentHere 1 = .ok (.getfield 7, 3) := by decide +kernel
theorem dX5_residentHere_4 : decode cX5_residentHere 4 = .ok (.iconst 0, 1) := by decide +kernel
theorem dX5_residentHere_5 : decode cX5_residentHere 5 = .ok (.iaload, 1) := by decide +kernel
theorem dX5_residentHere_6 : decode cX5_residentHere 6 = .ok (.bipush 8, 2) := by decide +kernel
theorem dX5_residentHere_8 : decode cX5_residentHere 8 = .ok (.if_icmp .ne 8, 3) := by decide +kernel
theorem dX5_residentHere_11 : decode cX5_residentHere 11 = .ok (.aload_n 0, 1) := by decide +kernel
theorem dX5_residentHere_12 : decode cX5_residentHere 12 = .ok (.invokevirtual 252, 3) := by decide +kernel
theorem dX5_residentHere_15 : decode cX5_residentHere 15 = .ok (.return_, 1) := by decide +kernel
theorem dX5_residentHere_16 : decode cX5_residentHere 16 = .ok (.aload_n 0, 1) := by decide +kernel
theorem dX5_residentHere_17 : decode cX5_residentHere 17 = .ok (.invokevirtual 255, 3) := by decide +kernel
theorem dX5_residentHere_20 : decode cX5_residentHere 20 = .ok (.aload_n 0, 1) := by decide +kernel
theorem dX5_residentHere_21 : decode cX5_residentHere 21 = .ok (.iload_n 1, 1) := by decide +kernel
theorem dX5_residentHere_22 : decode cX5_residentHere 22 = .ok (.invokevirtual 122, 3) := by decide +kernel
theorem dX5_residentHere_25 : decode cX5_residentHere 25 = .ok (.istore_n 2, 1) := by decide +kernel
theorem dX5_residentHere_26 : decode cX5_residentHere 26 = .ok (.aload_n 0, 1) := by decide +kernel
theorem dX5_residentHere_27 : decode cX5_residentHere 27 = .ok (.ldc2_w 261, 3) := by decide +kernel
theorem dX5_residentHere_30 : decode cX5_residentHere 30 = .ok (.iload_n 2, 1) := by decide +kernel
theorem dX5_residentHere_31 : decode cX5_residentHere 31 = .ok (.iconst 1, 1) := by decide +kernel
theorem dX5_residentHere_32 : decode cX5_residentHere 32 = .ok (.bipush 99, 2) := by decide +kernel
theorem dX5_residentHere_34 : decode cX5_residentHere 34 = .ok (.invokevirtual 263, 3) := by decide +kernel
theorem dX5_residentHere_37 : decode cX5_residentHere 37 = .ok (.aload_n 0, 1) := by decide +kernel
theorem dX5_residentHere_38 : decode cX5_residentHere 38 = .ok (.ldc2_w 267, 3) := by decide +kernel
theorem dX5_residentHere_41 : decode cX5_residentHere 41 = .ok (.iload_n 2, 1) := by decide +kernel
theorem dX5_residentHere_42 : decode cX5_residentHere 42 = .ok (.iconst 2, 1) := by decide +kernel
theorem dX5_residentHere_43 : decode cX5_residentHere 43 = .ok (.iload_n 2, 1) := by decide +kernel
theorem dX5_residentHere_44 : decode cX5_residentHere 44 = .ok (.iconst 1, 1) := by decide +kernel
theorem dX5_residentHere_45 : decode cX5_residentHere 45 = .ok (.isub, 1) := by decide +kernel
theorem dX5_residentHere_46 : decode cX5_residentHere 46 = .ok (.invokevirtual 263, 3) := by decide +kernel
theorem dX5_residentHere_49 : decode cX5_residentHere 49 = .ok (.aload_n 0, 1) := by decide +kernel
theorem dX5_residentHere_50 : decode cX5_residentHere 50 = .ok (.ldc2_w 269, 3) := by decide +kernel
theorem dX5_residentHere_53 : decode cX5_residentHere 53 = .ok (.iload_n 2, 1) := by decide +kernel
theorem dX5_residentHere_54 : decode cX5_residentHere 54 = .ok (.iconst 3, 1) := by decide +kernel
theorem dX5_residentHere_55 : decode cX5_residentHere 55 = .ok (.sipush 9999, 3) := by decide +kernel
theorem dX5_residentHere_58 : decode cX5_residentHere 58 = .ok (.invokevirtual 263, 3) := by decide +kernel
theorem dX5_residentHere_61 : decode cX5_residentHere 61 = .ok (.return_, 1) := by decide +kernel
theorem dX5_visitsHere_0 : decode cX5_visitsHere 0 = .ok (.aload_n 0, 1) := by decide +kernel
theorem dX5_visitsHere_1 : decode cX5_visitsHere 1 = .ok (.invokevirtual 255, 3) := by decide +kernel
theorem dX5_visitsHere_4 : decode cX5_visitsHere 4 = .ok (.aload_n 0, 1) := by decide +kernel
theorem dX5_visitsHere_5 : decode cX5_visitsHere 5 = .ok (.iconst 0, 1) := by decide +kernel
theorem dX5_visitsHere_6 : decode cX5_visitsHere 6 = .ok (.iconst 5, 1) := by decide +kernel
theorem dX5_visitsHere_7 : decode cX5_visitsHere 7 = .ok (.invokevirtual 258, 3) := by decide +kernel
theorem dX5_visitsHere_10 : decode cX5_visitsHere 10 = .ok (.istore_n 1, 1) := by decide +kernel
theorem dX5_visitsHere_11 : decode cX5_visitsHere 11 = .ok (.aload_n 0, 1) := by decide +kernel
theorem dX5_visitsHere_12 : decode cX5_visitsHere 12 = .ok (.getfield 223, 3) := by decide +kernel
theorem dX5_visitsHere_15 : decode cX5_visitsHere 15 = .ok (.ifCond .ge 14, 3) := by decide +kernel
theorem dX5_visitsHere_18 : decode cX5_visitsHere 18 = .ok (.aload_n 0, 1) := by decide +kernel
theorem dX5_visitsHere_19 : decode cX5_visitsHere 19 = .ok (.iconst 0, 1) := by decide +kernel
theorem dX5_visitsHere_20 : decode cX5_visitsHere 20 = .ok (.sipush 255, 3) := by decide +kernel
theorem dX5_visitsHere_23 : decode cX5_visitsHere 23 = .ok (.invokevirtual 258, 3) := by decide +kernel
theorem dX5_visitsHere_26 : decode cX5_visitsHere 26 = .ok (.goto 4, 3) := by decide +kernel
theorem dX5_visitsHere_29 : decode cX5_visitsHere 29 = .ok (.iconst 0, 1) := by decide +kernel
theorem dX5_visitsHere_30 : decode cX5_visitsHere 30 = .ok (.istore_n 2, 1) := by decide +kernel
theorem dX5_visitsHere_31 : decode cX5_visitsHere 31 = .ok (.aload_n 0, 1) := by decide +kernel
theorem dX5_visitsHere_32 : decode cX5_visitsHere 32 = .ok (.getfield 223, 3) := by decide +kernel
theorem dX5_visitsHere_35 : decode cX5_visitsHere 35 = .ok (.ifCond .ge 13, 3) := by decide +kernel
theorem dX5_visitsHere_38 : decode cX5_visitsHere 38 = .ok (.aload_n 0, 1) := by decide +kernel
theorem dX5_visitsHere_39 : decode cX5_visitsHere 39 = .ok (.getfield 7, 3) := by decide +kernel
theorem dX5_visitsHere_42 : decode cX5_visitsHere 42 = .ok (.bipush 7, 2) := by decide +kernel
theorem dX5_visitsHere_44 : decode cX5_visitsHere 44 = .ok (.iload_n 1, 1) := by decide +kernel
theorem dX5_visitsHere_45 : decode cX5_visitsHere 45 = .ok (.iadd, 1) := by decide +kernel
theorem dX5_visitsHere_46 : decode cX5_visitsHere 46 = .ok (.iload_n 2, 1) := by decide +kernel
theorem dX5_visitsHere_47 : decode cX5_visitsHere 47 = .ok (.iastore, 1) := by decide +kernel
theorem dX5_visitsHere_48 : decode cX5_visitsHere 48 = .ok (.return_, 1) := by decide +kernel
theorem dX5_item_0 : decode cX5_item 0 = .ok (.aload_n 0, 1) := by decide +kernel
theorem dX5_item_1 : decode cX5_item 1 = .ok (.invokevirtual 271, 3) := by decide +kernel
theorem dX5_item_4 : decode cX5_item 4 = .ok (.istore_n 1, 1) := by decide +kernel
theorem dX5_item_5 : decode cX5_item 5 = .ok (.aload_n 0, 1) := by decide +kernel
theorem dX5_item_6 : decode cX5_item 6 = .ok (.invokevirtual 274, 3) := by decide +kernel
theorem dX5_item_9 : decode cX5_item 9 = .ok (.istore_n 2, 1) := by decide +kernel
theorem dX5_item_10 : decode cX5_item 10 = .ok (.iload_n 1, 1) := by decide +kernel
theorem dX5_item_11 : decode cX5_item 11 = .ok (.ifCond .lt 11, 3) := by decide +kernel
theorem dX5_item_14 : decode cX5_item 14 = .ok (.aload_n 0, 1) := by decide +kernel
theorem dX5_item_15 : decode cX5_item 15 = .ok (.iload_n 1, 1) := by decide +kernel
theorem dX5_item_16 : decode cX5_item 16 = .ok (.invokevirtual 277, 3) := by decide +kernel
theorem dX5_item_19 : decode cX5_item 19 = .ok (.goto 79, 3) := by decide +kernel
theorem dX5_item_22 : decode cX5_item 22 = .ok (.iload_n 2, 1) := by decide +kernel
theorem dX5_item_23 : decode cX5_item 23 = .ok (.ifCond .lt 54, 3) := by decide +kernel
theorem dX5_item_26 : decode cX5_item 26 = .ok (.aload_n 0, 1) := by decide +kernel
theorem dX5_item_27 : decode cX5_item 27 = .ok (.invokevirtual 255, 3) := by decide +kernel
theorem dX5_item_30 : decode cX5_item 30 = .ok (.aload_n 0, 1) := by decide +kernel
theorem dX5_item_31 : decode cX5_item 31 = .ok (.getfield 7, 3) := by decide +kernel
theorem dX5_item_34 : decode cX5_item 34 = .ok (.iconst 3, 1) := by decide +kernel
theorem dX5_item_35 : decode cX5_item 35 = .ok (.iload_n 2, 1) := by decide +kernel
theorem dX5_item_36 : decode cX5_item 36 = .ok (.iadd, 1) := by decide +kernel
theorem dX5_item_37 : decode cX5_item 37 = .ok (.aload_n 0, 1) := by decide +kernel
theorem dX5_item_38 : decode cX5_item 38 = .ok (.iload_n 2, 1) := by decide +kernel
theorem dX5_item_39 : decode cX5_item 39 = .ok (.iconst 3, 1) := by decide +kernel
theorem dX5_item_40 : decode cX5_item 40 = .ok (.if_icmp .ne 7, 3) := by decide +kernel
theorem dX5_item_43 : decode cX5_item 43 = .ok (.iconst 1, 1) := by decide +kernel
theorem dX5_item_44 : decode cX5_item 44 = .ok (.goto 4, 3) := by decide +kernel
theorem dX5_item_47 : decode cX5_item 47 = .ok (.iconst 0, 1) := by decide +kernel
theorem dX5_item_48 : decode cX5_item 48 = .ok (.iload_n 2, 1) := by decide +kernel
theorem dX5_item_49 : decode cX5_item 49 = .ok (.iconst 2, 1) := by decide +kernel
theorem dX5_item_50 : decode cX5_item 50 = .ok (.if_icmp .ge 8, 3) := by decide +kernel
theorem dX5_item_53 : decode cX5_item 53 = .ok (.bipush 20, 2) := by decide +kernel
theorem dX5_item_55 : decode cX5_item 55 = .ok (.goto 15, 3) := by decide +kernel
theorem dX5_item_58 : decode cX5_item 58 = .ok (.iload_n 2, 1) := by decide +kernel
theorem dX5_item_59 : decode cX5_item 59 = .ok (.iconst 2, 1) := by decide +kernel
theorem dX5_item_60 : decode cX5_item 60 = .ok (.if_icmp .ne 8, 3) := by decide +kernel
theorem dX5_item_63 : decode cX5_item 63 = .ok (.bipush 8, 2) := by decide +kernel
theorem dX5_item_65 : decode cX5_item 65 = .ok (.goto 5, 3) := by decide +kernel
theorem dX5_item_68 : decode cX5_item 68 = .ok (.bipush 12, 2) := by decide +kernel
theorem dX5_item_70 : decode cX5_item 70 = .ok (.invokevirtual 258, 3) := by decide +kernel
theorem dX5_item_73 : decode cX5_item 73 = .ok (.iastore, 1) := by decide +kernel
theorem dX5_item_74 : decode cX5_item 74 = .ok (.goto 24, 3) := by decide +kernel
theorem dX5_item_77 : decode cX5_item 77 = .ok (.aload_n 0, 1) := by decide +kernel
theorem dX5_item_78 : decode cX5_item 78 = .ok (.ldc2_w 280, 3) := by decide +kernel
theorem dX5_item_81 : decode cX5_item 81 = .ok (.invokevirtual 228, 3) := by decide +kernel
theorem dX5_item_84 : decode cX5_item 84 = .ok (.ifCond .eq 10, 3) := by decide +kernel
theorem dX5_item_87 : decode cX5_item 87 = .ok (.aload_n 0, 1) := by decide +kernel
theorem dX5_item_88 : decode cX5_item 88 = .ok (.invokevirtual 282, 3) := by decide +kernel
theorem dX5_item_91 : decode cX5_item 91 = .ok (.goto 7, 3) := by decide +kernel
theorem dX5_item_94 : decode cX5_item 94 = .ok (.aload_n 0, 1) := by decide +kernel
theorem dX5_item_95 : decode cX5_item 95 = .ok (.invokevirtual 252, 3) := by decide +kernel
theorem dX5_item_98 : decode cX5_item 98 = .ok (.return_, 1) := by decide +kernel
theorem dX5_items_0 : decode cX5_items 0 = .ok (.aload_n 0, 1) := by decide +kernel
theorem dX5_items_1 : decode cX5_items 1 = .ok (.iconst 0, 1) := by decide +kernel
theorem dX5_items_2 : decode cX5_items 2 = .ok (.putfield 193, 3) := by decide +kernel
theorem dX5_items_5 : decode cX5_items 5 = .ok (.aload_n 0, 1) := by decide +kernel
theorem dX5_items_6 : decode cX5_items 6 = .ok (.iconst (-1), 1) := by decide +kernel
theorem dX5_items_7 : decode cX5_items 7 = .ok (.putfield 223, 3) := by decide +kernel
theorem dX5_items_10 : decode cX5_items 10 = .ok (.aload_n 0, 1) := by decide +kernel
theorem dX5_items_11 : decode cX5_items 11 = .ok (.invokevirtual 255, 3) := by decide +kernel
theorem dX5_items_14 : decode cX5_items 14 = .ok (.aload_n 0, 1) := by decide +kernel
theorem dX5_items_15 : decode cX5_items 15 = .ok (.invokevirtual 285, 3) := by decide +kernel
theorem dX5_items_18 : decode cX5_items 18 = .ok (.iconst 1, 1) := by decide +kernel
theorem dX5_items_19 : decode cX5_items 19 = .ok (.istore_n 1, 1) := by decide +kernel
theorem dX5_items_20 : decode cX5_items 20 = .ok (.aload_n 0, 1) := by decide +kernel
theorem dX5_items_21 : decode cX5_items 21 = .ok (.getfield 223, 3) := by decide +kernel
theorem dX5_items_24 : decode cX5_items 24 = .ok (.ifCond .ge 25, 3) := by decide +kernel
theorem dX5_items_27 : decode cX5_items 27 = .ok (.aload_n 0, 1) := by decide +kernel
theorem dX5_items_28 : decode cX5_items 28 = .ok (.getfield 206, 3) := by decide +kernel
theorem dX5_items_31 : decode cX5_items 31 = .ok (.iconst 3, 1) := by decide +kernel
theorem dX5_items_32 : decode cX5_items 32 = .ok (.if_icmp .ne 17, 3) := by decide +kernel
theorem dX5_items_35 : decode cX5_items 35 = .ok (.aload_n 0, 1) := by decide +kernel
theorem dX5_items_36 : decode cX5_items 36 = .ok (.invokevirtual 255, 3) := by decide +kernel
theorem dX5_items_39 : decode cX5_items 39 = .ok (.aload_n 0, 1) := by decide +kernel
theorem dX5_items_40 : decode cX5_items 40 = .ok (.invokevirtual 285, 3) := by decide +kernel
theorem dX5_items_43 : decode cX5_items 43 = .ok (.iinc 1 1, 3) := by decide +kernel
theorem dX5_items_46 : decode cX5_items 46 = .ok (.goto (-26), 3) := by decide +kernel
theorem dX5_items_49 : decode cX5_items 49 = .ok (.aload_n 0, 1) := by decide +kernel
theorem dX5_items_50 : decode cX5_items 50 = .ok (.getfield 223, 3) := by decide +kernel
theorem dX5_items_53 : decode cX5_items 53 = .ok (.ifCond .ge 14, 3) := by decide +kernel
theorem dX5_items_56 : decode cX5_items 56 = .ok (.aload_n 0, 1) := by decide +kernel
theorem dX5_items_57 : decode cX5_items 57 = .ok (.getfield 206, 3) := by decide +kernel
theorem dX5_items_60 : decode cX5_items 60 = .ok (.ifCond .eq 7, 3) := by decide +kernel
theorem dX5_items_63 : decode cX5_items 63 = .ok (.aload_n 0, 1) := by decide +kernel
theorem dX5_items_64 : decode cX5_items 64 = .ok (.invokevirtual 252, 3) := by decide +kernel
theorem dX5_items_67 : decode cX5_items 67 = .ok (.iload_n 1, 1) := by decide +kernel
theorem dX5_items_68 : decode cX5_items 68 = .ok (.ireturn, 1) := by decide +kernel
theorem dX5_text_0 : decode cX5_text 0 = .ok (.aload_n 0, 1) := by decide +kernel
theorem dX5_text_1 : decode cX5_text 1 = .ok (.getfield 7, 3) := by decide +kernel
theorem dX5_text_4 : decode cX5_text 4 = .ok (.aload_n 0, 1) := by decide +kernel
theorem dX5_text_5 : decode cX5_text 5 = .ok (.getfield 13, 3) := by decide +kernel
theorem dX5_text_8 : decode cX5_text 8 = .ok (.invokestatic 152, 3) := by decide +kernel
theorem dX5_text_11 : decode cX5_text 11 = .ok (.aload_n 0, 1) := by decide +kernel
theorem dX5_text_12 : decode cX5_text 12 = .ok (.invokevirtual 288, 3) := by decide +kernel
theorem dX5_text_15 : decode cX5_text 15 = .ok (.istore_n 1, 1) := by decide +kernel
theorem dX5_text_16 : decode cX5_text 16 = .ok (.aload_n 0, 1) := by decide +kernel
theorem dX5_text_17 : decode cX5_text 17 = .ok (.iconst 0, 1) := by decide +kernel
theorem dX5_text_18 : decode cX5_text 18 = .ok (.putfield 189, 3) := by decide +kernel
theorem dX5_text_21 : decode cX5_text 21 = .ok (.aload_n 0, 1) := by decide +kernel
theorem dX5_text_22 : decode cX5_text 22 = .ok (.getfield 223, 3) := by decide +kernel
theorem dX5_text_25 : decode cX5_text 25 = .ok (.ifCond .lt 21, 3) := by decide +kernel
theorem dX5_text_28 : decode cX5_text 28 = .ok (.aload_n 0, 1) := by decide +kernel
theorem dX5_text_29 : decode cX5_text 29 = .ok (.getfield 13, 3) := by decide +kernel
theorem dX5_text_32 : decode cX5_text 32 = .ok (.aload_n 0, 1) := by decide +kernel
theorem dX5_text_33 : decode cX5_text 33 = .ok (.getfield 7, 3) := by decide +kernel
theorem dX5_text_36 : decode cX5_text 36 = .ok (.invokestatic 152, 3) := by decide +kernel
theorem dX5_text_39 : decode cX5_text 39 = .ok (.iconst (-1), 1) := by decide +kernel
theorem dX5_text_40 : decode cX5_text 40 = .ok (.aload_n 0, 1) := by decide +kernel
theorem dX5_text_41 : decode cX5_text 41 = .ok (.getfield 223, 3) := by decide +kernel
theorem dX5_text_44 : decode cX5_text 44 = .ok (.isub, 1) := by decide +kernel
theorem dX5_text_45 : decode cX5_text 45 = .ok (.ireturn, 1) := by decide +kernel
theorem dX5_text_46 : decode cX5_text 46 = .ok (.iload_n 1, 1) := by decide +kernel
theorem dX5_text_47 : decode cX5_text 47 = .ok (.ireturn, 1) := by decide +kernel
theorem dX5_hold_0 : decode cX5_hold 0 = .ok (.iload_n 1, 1) := by decide +kernel
theorem dX5_hold_1 : decode cX5_hold 1 = .ok (.i2l, 1) := by decide +kernel
theorem dX5_hold_2 : decode cX5_hold 2 = .ok (.lconst 0, 1) := by decide +kernel
theorem dX5_hold_3 : decode cX5_hold 3 = .ok (.ldc2_w 291, 3) := by decide +kernel
theorem dX5_hold_6 : decode cX5_hold 6 = .ok (.invokestatic 42, 3) := by decide +kernel
theorem dX5_hold_9 : decode cX5_hold 9 = .ok (.ifCond .eq 23, 3) := by decide +kernel
theorem dX5_hold_12 : decode cX5_hold 12 = .ok (.iload_n 2, 1) := by decide +kernel
theorem dX5_hold_13 : decode cX5_hold 13 = .ok (.i2l, 1) := by decide +kernel
theorem dX5_hold_14 : decode cX5_hold 14 = .ok (.ldc2_w 130, 3) := by decide +kernel
theorem dX5_hold_17 : decode cX5_hold 17 = .ok (.aload_n 0, 1) := by decide +kernel
theorem dX5_hold_18 : decode cX5_hold 18 = .ok (.getfield 7, 3) := by decide +kernel
theorem dX5_hold_21 : decode cX5_hold 21 = .ok (.iconst 0, 1) := by decide +kernel
theorem dX5_hold_22 : decode cX5_hold 22 = .ok (.iaload, 1) := by decide +kernel
theorem dX5_hold_23 : decode cX5_hold 23 = .ok (.iconst 1, 1) := by decide +kernel
theorem dX5_hold_24 : decode cX5_hold 24 = .ok (.isub, 1) := by decide +kernel
theorem dX5_hold_25 : decode cX5_hold 25 = .ok (.i2l, 1) := by decide +kernel
theorem dX5_hold_26 : decode cX5_hold 26 = .ok (.invokestatic 42, 3) := by decide +kernel
theorem dX5_hold_29 : decode cX5_hold 29 = .ok (.ifCond .ne 9, 3) := by decide +kernel
theorem dX5_hold_32 : decode cX5_hold 32 = .ok (.aload_n 0, 1) := by decide +kernel
theorem dX5_hold_33 : decode cX5_hold 33 = .ok (.iconst 0, 1) := by decide +kernel
theorem dX5_hold_34 : decode cX5_hold 34 = .ok (.invokevirtual 108, 3) := by decide +kernel
theorem dX5_hold_37 : decode cX5_hold 37 = .ok (.ireturn, 1) := by decide +kernel
theorem dX5_hold_38 : decode cX5_hold 38 = .ok (.aload_n 0, 1) := by decide +kernel
theorem dX5_hold_39 : decode cX5_hold 39 = .ok (.getfield 7, 3) := by decide +kernel
theorem dX5_hold_42 : decode cX5_hold 42 = .ok (.bipush 53, 2) := by decide +kernel
theorem dX5_hold_44 : decode cX5_hold 44 = .ok (.iload_n 1, 1) := by decide +kernel
theorem dX5_hold_45 : decode cX5_hold 45 = .ok (.iadd, 1) := by decide +kernel
theorem dX5_hold_46 : decode cX5_hold 46 = .ok (.iload_n 2, 1) := by decide +kernel
theorem dX5_hold_47 : decode cX5_hold 47 = .ok (.iconst 1, 1) := by decide +kernel
theorem dX5_hold_48 : decode cX5_hold 48 = .ok (.iadd, 1) := by decide +kernel
theorem dX5_hold_49 : decode cX5_hold 49 = .ok (.iastore, 1) := by decide +kernel
theorem dX5_hold_50 : decode cX5_hold 50 = .ok (.iconst 1, 1) := by decide +kernel
theorem dX5_hold_51 : decode cX5_hold 51 = .ok (.ireturn, 1) := by decide +kernel
theorem dX5_above_0 : decode cX5_above 0 = .ok (.iload_n 0, 1) := by decide +kernel
theorem dX5_above_1 : decode cX5_above 1 = .ok (.iconst 3, 1) := by decide +kernel
theorem dX5_above_2 : decode cX5_above 2 = .ok (.if_icmp .ne 7, 3) := by decide +kernel
theorem dX5_above_5 : decode cX5_above 5 = .ok (.iconst 2, 1) := by decide +kernel
theorem dX5_above_6 : decode cX5_above 6 = .ok (.goto 23, 3) := by decide +kernel
theorem dX5_above_9 : decode cX5_above 9 = .ok (.iload_n 0, 1) := by decide +kernel
theorem dX5_above_10 : decode cX5_above 10 = .ok (.iconst 4, 1) := by decide +kernel
theorem dX5_above_11 : decode cX5_above 11 = .ok (.if_icmp .ne 7, 3) := by decide +kernel
theorem dX5_above_14 : decode cX5_above 14 = .ok (.iconst 3, 1) := by decide +kernel
theorem dX5_above_15 : decode cX5_above 15 = .ok (.goto 14, 3) := by decide +kernel
theorem dX5_above_18 : decode cX5_above 18 = .ok (.iload_n 0, 1) := by decide +kernel
theorem dX5_above_19 : decode cX5_above 19 = .ok (.bipush 6, 2) := by decide +kernel
theorem dX5_above_21 : decode cX5_above 21 = .ok (.if_icmp .ne 7, 3) := by decide +kernel
theorem dX5_above_24 : decode cX5_above 24 = .ok (.iconst 1, 1) := by decide +kernel
theorem dX5_above_25 : decode cX5_above 25 = .ok (.goto 4, 3) := by decide +kernel
theorem dX5_above_28 : decode cX5_above 28 = .ok (.iconst 0, 1) := by decide +kernel
theorem dX5_above_29 : decode cX5_above 29 = .ok (.ireturn, 1) := by decide +kernel
theorem dX5_as_0 : decode cX5_as 0 = .ok (.iload_n 1, 1) := by decide +kernel
theorem dX5_as_1 : decode cX5_as 1 = .ok (.i2l, 1) := by decide +kernel
theorem dX5_as_2 : decode cX5_as 2 = .ok (.lconst 0, 1) := by decide +kernel
theorem dX5_as_3 : decode cX5_as 3 = .ok (.ldc2_w 291, 3) := by decide +kernel
theorem dX5_as_6 : decode cX5_as 6 = .ok (.invokestatic 42, 3) := by decide +kernel
theorem dX5_as_9 : decode cX5_as 9 = .ok (.ifCond .eq 15, 3) := by decide +kernel
theorem dX5_as_12 : decode cX5_as 12 = .ok (.iload_n 2, 1) := by decide +kernel
theorem dX5_as_13 : decode cX5_as 13 = .ok (.i2l, 1) := by decide +kernel
theorem dX5_as_14 : decode cX5_as 14 = .ok (.lconst 0, 1) := by decide +kernel
theorem dX5_as_15 : decode cX5_as 15 = .ok (.ldc2_w 120, 3) := by decide +kernel
theorem dX5_as_18 : decode cX5_as 18 = .ok (.invokestatic 42, 3) := by decide +kernel
theorem dX5_as_21 : decode cX5_as 21 = .ok (.ifCond .ne 9, 3) := by decide +kernel
theorem dX5_as_24 : decode cX5_as 24 = .ok (.aload_n 0, 1) := by decide +kernel
theorem dX5_as_25 : decode cX5_as 25 = .ok (.iconst 0, 1) := by decide +kernel
theorem dX5_as_26 : decode cX5_as 26 = .ok (.invokevirtual 108, 3) := by decide +kernel
theorem dX5_as_29 : decode cX5_as 29 = .ok (.ireturn, 1) := by decide +kernel
theorem dX5_as_30 : decode cX5_as 30 = .ok (.aload_n 0, 1) := by decide +kernel
theorem dX5_as_31 : decode cX5_as 31 = .ok (.getfield 7, 3) := by decide +kernel
theorem dX5_as_34 : decode cX5_as 34 = .ok (.bipush 53, 2) := by decide +kernel
theorem dX5_as_36 : decode cX5_as 36 = .ok (.iload_n 1, 1) := by decide +kernel
theorem dX5_as_37 : decode cX5_as 37 = .ok (.iadd, 1) := by decide +kernel
theorem dX5_as_38 : decode cX5_as 38 = .ok (.iaload, 1) := by decide +kernel
theorem dX5_as_39 : decode cX5_as 39 = .ok (.ifCond .ne 9, 3) := by decide +kernel
theorem dX5_as_42 : decode cX5_as 42 = .ok (.aload_n 0, 1) := by decide +kernel
theorem dX5_as_43 : decode cX5_as 43 = .ok (.iconst 5, 1) := by decide +kernel
theorem dX5_as_44 : decode cX5_as 44 = .ok (.invokevirtual 108, 3) := by decide +kernel
theorem dX5_as_47 : decode cX5_as 47 = .ok (.ireturn, 1) := by decide +kernel
theorem dX5_as_48 : decode cX5_as 48 = .ok (.aload_n 0, 1) := by decide +kernel
theorem dX5_as_49 : decode cX5_as 49 = .ok (.getfield 7, 3) := by decide +kernel
theorem dX5_as_52 : decode cX5_as 52 = .ok (.bipush 53, 2) := by decide +kernel
theorem dX5_as_54 : decode cX5_as 54 = .ok (.iload_n 1, 1) := by decide +kernel
theorem dX5_as_55 : decode cX5_as 55 = .ok (.iadd, 1) := by decide +kernel
theorem dX5_as_56 : decode cX5_as 56 = .ok (.iaload, 1) := by decide +kernel
theorem dX5_as_57 : decode cX5_as 57 = .ok (.iconst 1, 1) := by decide +kernel
theorem dX5_as_58 : decode cX5_as 58 = .ok (.isub, 1) := by decide +kernel
theorem dX5_as_59 : decode cX5_as 59 = .ok (.istore_n 3, 1) := by decide +kernel
theorem dX5_as_60 : decode cX5_as 60 = .ok (.aload_n 0, 1) := by decide +kernel
theorem dX5_as_61 : decode cX5_as 61 = .ok (.iload_n 3, 1) := by decide +kernel
theorem dX5_as_62 : decode cX5_as 62 = .ok (.iconst 0, 1) := by decide +kernel
theorem dX5_as_63 : decode cX5_as 63 = .ok (.invokevirtual 46, 3) := by decide +kernel
theorem dX5_as_66 : decode cX5_as 66 = .ok (.istore 4, 2) := by decide +kernel
theorem dX5_as_68 : decode cX5_as 68 = .ok (.iload_n 2, 1) := by decide +kernel
theorem dX5_as_69 : decode cX5_as 69 = .ok (.ifCond .eq 30, 3) := by decide +kernel
theorem dX5_as_72 : decode cX5_as 72 = .ok (.iload_n 2, 1) := by decide +kernel
theorem dX5_as_73 : decode cX5_as 73 = .ok (.iload 4, 2) := by decide +kernel
theorem dX5_as_75 : decode cX5_as 75 = .ok (.if_icmp .eq 24, 3) := by decide +kernel
theorem dX5_as_78 : decode cX5_as 78 = .ok (.iload_n 2, 1) := by decide +kernel
theorem dX5_as_79 : decode cX5_as 79 = .ok (.iload 4, 2) := by decide +kernel
theorem dX5_as_81 : decode cX5_as 81 = .ok (.invokestatic 293, 3) := by decide +kernel
theorem dX5_as_84 : decode cX5_as 84 = .ok (.if_icmp .eq 15, 3) := by decide +kernel
theorem dX5_as_87 : decode cX5_as 87 = .ok (.iload_n 2, 1) := by decide +kernel
theorem dX5_as_88 : decode cX5_as 88 = .ok (.iload 4, 2) := by decide +kernel
theorem dX5_as_90 : decode cX5_as 90 = .ok (.invokestatic 293, 3) := by decide +kernel
theorem dX5_as_93 : decode cX5_as 93 = .ok (.invokestatic 293, 3) := by decide +kernel
theorem dX5_as_96 : decode cX5_as 96 = .ok (.if_icmp .ne 7, 3) := by decide +kernel
theorem dX5_as_99 : decode cX5_as 99 = .ok (.iload_n 3, 1) := by decide +kernel
theorem dX5_as_100 : decode cX5_as 100 = .ok (.goto 8, 3) := by decide +kernel
theorem dX5_as_103 : decode cX5_as 103 = .ok (.aload_n 0, 1) := by decide +kernel
theorem dX5_as_104 : decode cX5_as 104 = .ok (.iconst 2, 1) := by decide +kernel
theorem dX5_as_105 : decode cX5_as 105 = .ok (.invokevirtual 108, 3) := by decide +kernel
theorem dX5_as_108 : decode cX5_as 108 = .ok (.ireturn, 1) := by decide +kernel
theorem dX5_isSheet_0 : decode cX5_isSheet 0 = .ok (.iload_n 0, 1) := by decide +kernel
theorem dX5_isSheet_1 : decode cX5_isSheet 1 = .ok (.i2l, 1) := by decide +kernel
theorem dX5_isSheet_2 : decode cX5_isSheet 2 = .ok (.lconst 0, 1) := by decide +kernel
theorem dX5_isSheet_3 : decode cX5_isSheet 3 = .ok (.ldc2_w 111, 3) := by decide +kernel
theorem dX5_isSheet_6 : decode cX5_isSheet 6 = .ok (.invokestatic 42, 3) := by decide +kernel
theorem dX5_isSheet_9 : decode cX5_isSheet 9 = .ok (.ireturn, 1) := by decide +kernel
theorem dX5_sheet_0 : decode cX5_sheet 0 = .ok (.iload_n 1, 1) := by decide +kernel
theorem dX5_sheet_1 : decode cX5_sheet 1 = .ok (.invokestatic 296, 3) := by decide +kernel
theorem dX5_sheet_4 : decode cX5_sheet 4 = .ok (.ifCond .eq 25, 3) := by decide +kernel
theorem dX5_sheet_7 : decode cX5_sheet 7 = .ok (.iload_n 2, 1) := by decide +kernel
theorem dX5_sheet_8 : decode cX5_sheet 8 = .ok (.ifCond .eq 27, 3) := by decide +kernel
theorem dX5_sheet_11 : decode cX5_sheet 11 = .ok (.iload_n 2, 1) := by decide +kernel
theorem dX5_sheet_12 : decode cX5_sheet 12 = .ok (.bipush 8, 2) := by decide +kernel
theorem dX5_sheet_14 : decode cX5_sheet 14 = .ok (.if_icmp .eq 21, 3) := by decide +kernel
theorem dX5_sheet_17 : decode cX5_sheet 17 = .ok (.iload_n 2, 1) := by decide +kernel
theorem dX5_sheet_18 : decode cX5_sheet 18 = .ok (.bipush 16, 2) := by decide +kernel
theorem dX5_sheet_20 : decode cX5_sheet 20 = .ok (.if_icmp .eq 15, 3) := by decide +kernel
theorem dX5_sheet_23 : decode cX5_sheet 23 = .ok (.iload_n 2, 1) := by decide +kernel
theorem dX5_sheet_24 : decode cX5_sheet 24 = .ok (.bipush 32, 2) := by decide +kernel
theorem dX5_sheet_26 : decode cX5_sheet 26 = .ok (.if_icmp .eq 9, 3) := by decide +kernel
theorem dX5_sheet_29 : decode cX5_sheet 29 = .ok (.aload_n 0, 1) := by decide +kernel
theorem dX5_sheet_30 : decode cX5_sheet 30 = .ok (.iconst 0, 1) := by decide +kernel
theorem dX5_sheet_31 : decode cX5_sheet 31 = .ok (.invokevirtual 108, 3) := by decide +kernel
theorem dX5_sheet_34 : decode cX5_sheet 34 = .ok (.ireturn, 1) := by decide +kernel
theorem dX5_sheet_35 : decode cX5_sheet 35 = .ok (.iload_n 3, 1) := by decide +kernel
theorem dX5_sheet_36 : decode cX5_sheet 36 = .ok (.ifCond .ge 10, 3) := by decide +kernel
theorem dX5_sheet_39 : decode cX5_sheet 39 = .ok (.aload_n 0, 1) := by decide +kernel
theorem dX5_sheet_40 : decode cX5_sheet 40 = .ok (.bipush 6, 2) := by decide +kernel
theorem dX5_sheet_42 : decode cX5_sheet 42 = .ok (.invokevirtual 108, 3) := by decide +kernel
theorem dX5_sheet_45 : decode cX5_sheet 45 = .ok (.ireturn, 1) := by decide +kernel
theorem dX5_sheet_46 : decode cX5_sheet 46 = .ok (.iload_n 3, 1) := by decide +kernel
theorem dX5_sheet_47 : decode cX5_sheet 47 = .ok (.bipush 40, 2) := by decide +kernel
theorem dX5_sheet_49 : decode cX5_sheet 49 = .ok (.if_icmp .le 9, 3) := by decide +kernel
theorem dX5_sheet_52 : decode cX5_sheet 52 = .ok (.aload_n 0, 1) := by decide +kernel
theorem dX5_sheet_53 : decode cX5_sheet 53 = .ok (.iconst 0, 1) := by decide +kernel
theorem dX5_sheet_54 : decode cX5_sheet 54 = .ok (.invokevirtual 108, 3) := by decide +kernel
theorem dX5_sheet_57 : decode cX5_sheet 57 = .ok (.ireturn, 1) := by decide +kernel
theorem dX5_sheet_58 : decode cX5_sheet 58 = .ok (.aload_n 0, 1) := by decide +kernel
theorem dX5_sheet_59 : decode cX5_sheet 59 = .ok (.getfield 29, 3) := by decide +kernel
theorem dX5_sheet_62 : decode cX5_sheet 62 = .ok (.iload_n 1, 1) := by decide +kernel
theorem dX5_sheet_63 : decode cX5_sheet 63 = .ok (.iload_n 2, 1) := by decide +kernel
theorem dX5_sheet_64 : decode cX5_sheet 64 = .ok (.iastore, 1) := by decide +kernel
theorem dX5_sheet_65 : decode cX5_sheet 65 = .ok (.aload_n 0, 1) := by decide +kernel
theorem dX5_sheet_66 : decode cX5_sheet 66 = .ok (.getfield 32, 3) := by decide +kernel
theorem dX5_sheet_69 : decode cX5_sheet 69 = .ok (.iload_n 1, 1) := by decide +kernel
theorem dX5_sheet_70 : decode cX5_sheet 70 = .ok (.iload_n 2, 1) := by decide +kernel
theorem dX5_sheet_71 : decode cX5_sheet 71 = .ok (.ifCond .ne 7, 3) := by decide +kernel
theorem dX5_sheet_74 : decode cX5_sheet 74 = .ok (.iconst 0, 1) := by decide +kernel
theorem dX5_sheet_75 : decode cX5_sheet 75 = .ok (.goto 4, 3) := by decide +kernel
theorem dX5_sheet_78 : decode cX5_sheet 78 = .ok (.iload_n 3, 1) := by decide +kernel
theorem dX5_sheet_79 : decode cX5_sheet 79 = .ok (.iastore, 1) := by decide +kernel
theorem dX5_sheet_80 : decode cX5_sheet 80 = .ok (.iconst 0, 1) := by decide +kernel
theorem dX5_sheet_81 : decode cX5_sheet 81 = .ok (.istore 4, 2) := by decide +kernel
theorem dX5_sheet_83 : decode cX5_sheet 83 = .ok (.iload 4, 2) := by decide +kernel
theorem dX5_sheet_85 : decode cX5_sheet 85 = .ok (.bipush 40, 2) := by decide +kernel
theorem dX5_sheet_87 : decode cX5_sheet 87 = .ok (.if_icmp .ge 22, 3) := by decide +kernel
theorem dX5_sheet_90 : decode cX5_sheet 90 = .ok (.aload_n 0, 1) := by decide +kernel
theorem dX5_sheet_91 : decode cX5_sheet 91 = .ok (.getfield 35, 3) := by decide +kernel
theorem dX5_sheet_94 : decode cX5_sheet 94 = .ok (.bipush 40, 2) := by decide +kernel
theorem dX5_sheet_96 : decode cX5_sheet 96 = .ok (.iload_n 1, 1) := by decide +kernel
theorem dX5_sheet_97 : decode cX5_sheet 97 = .ok (.imul, 1) := by decide +kernel
theorem dX5_sheet_98 : decode cX5_sheet 98 = .ok (.iload 4, 2) := by decide +kernel
theorem dX5_sheet_100 : decode cX5_sheet 100 = .ok (.iadd, 1) := by decide +kernel
theorem dX5_sheet_101 : decode cX5_sheet 101 = .ok (.iconst 0, 1) := by decide +kernel
theorem dX5_sheet_102 : decode cX5_sheet 102 = .ok (.iastore, 1) := by decide +kernel
theorem dX5_sheet_103 : decode cX5_sheet 103 = .ok (.iinc 4 1, 3) := by decide +kernel
theorem dX5_sheet_106 : decode cX5_sheet 106 = .ok (.goto (-23), 3) := by decide +kernel
theorem dX5_sheet_109 : decode cX5_sheet 109 = .ok (.aload_n 0, 1) := by decide +kernel
theorem dX5_sheet_110 : decode cX5_sheet 110 = .ok (.getfield 32, 3) := by decide +kernel
theorem dX5_sheet_113 : decode cX5_sheet 113 = .ok (.iload_n 1, 1) := by decide +kernel
theorem dX5_sheet_114 : decode cX5_sheet 114 = .ok (.iaload, 1) := by decide +kernel
theorem dX5_sheet_115 : decode cX5_sheet 115 = .ok (.ireturn, 1) := by decide +kernel
theorem dX5_whyNone_0 : decode cX5_whyNone 0 = .ok (.iload_n 1, 1) := by decide +kernel
theorem dX5_whyNone_1 : decode cX5_whyNone 1 = .ok (.invokestatic 296, 3) := by decide +kernel
theorem dX5_whyNone_4 : decode cX5_whyNone 4 = .ok (.ifCond .ne 7, 3) := by decide +kernel
theorem dX5_whyNone_7 : decode cX5_whyNone 7 = .ok (.iconst 0, 1) := by decide +kernel
theorem dX5_whyNone_8 : decode cX5_whyNone 8 = .ok (.goto 17, 3) := by decide +kernel
theorem dX5_whyNone_11 : decode cX5_whyNone 11 = .ok (.aload_n 0, 1) := by decide +kernel
theorem dX5_whyNone_12 : decode cX5_whyNone 12 = .ok (.getfield 29, 3) := by decide +kernel
theorem dX5_whyNone_15 : decode cX5_whyNone 15 = .ok (.iload_n 1, 1) := by decide +kernel
theorem dX5_whyNone_16 : decode cX5_whyNone 16 = .ok (.iaload, 1) := by decide +kernel
theorem dX5_whyNone_17 : decode cX5_whyNone 17 = .ok (.ifCond .ne 7, 3) := by decide +kernel
theorem dX5_whyNone_20 : decode cX5_whyNone 20 = .ok (.iconst 5, 1) := by decide +kernel
theorem dX5_whyNone_21 : decode cX5_whyNone 21 = .ok (.goto 4, 3) := by decide +kernel
theorem dX5_whyNone_24 : decode cX5_whyNone 24 = .ok (.iconst (-1), 1) := by decide +kernel
theorem dX5_whyNone_25 : decode cX5_whyNone 25 = .ok (.ireturn, 1) := by decide +kernel
theorem dX5_write_0 : decode cX5_write 0 = .ok (.aload_n 0, 1) := by decide +kernel
theorem dX5_write_1 : decode cX5_write 1 = .ok (.iload_n 1, 1) := by decide +kernel
theorem dX5_write_2 : decode cX5_write 2 = .ok (.invokevirtual 173, 3) := by decide +kernel
theorem dX5_write_5 : decode cX5_write 5 = .ok (.istore 4, 2) := by decide +kernel
theorem dX5_write_7 : decode cX5_write 7 = .ok (.iload 4, 2) := by decide +kernel
theorem dX5_write_9 : decode cX5_write 9 = .ok (.ifCond .ge 25, 3) := by decide +kernel
theorem dX5_write_12 : decode cX5_write 12 = .ok (.iload_n 2, 1) := by decide +kernel
theorem dX5_write_13 : decode cX5_write 13 = .ok (.i2l, 1) := by decide +kernel
theorem dX5_write_14 : decode cX5_write 14 = .ok (.lconst 0, 1) := by decide +kernel
theorem dX5_write_15 : decode cX5_write 15 = .ok (.aload_n 0, 1) := by decide +kernel
theorem dX5_write_16 : decode cX5_write 16 = .ok (.getfield 32, 3) := by decide +kernel
theorem dX5_write_19 : decode cX5_write 19 = .ok (.iload_n 1, 1) := by decide +kernel
theorem dX5_write_20 : decode cX5_write 20 = .ok (.iaload, 1) := by decide +kernel
theorem dX5_write_21 : decode cX5_write 21 = .ok (.iconst 1, 1) := by decide +kernel
theorem dX5_write_22 : decode cX5_write 22 = .ok (.isub, 1) := by decide +kernel
theorem dX5_write_23 : decode cX5_write 23 = .ok (.i2l, 1) := by decide +kernel
theorem dX5_write_24 : decode cX5_write 24 = .ok (.invokestatic 42, 3) := by decide +kernel
theorem dX5_write_27 : decode cX5_write 27 = .ok (.ifCond .ne 7, 3) := by decide +kernel
theorem dX5_write_30 : decode cX5_write 30 = .ok (.iconst 0, 1) := by decide +kernel
theorem dX5_write_31 : decode cX5_write 31 = .ok (.goto 5, 3) := by decide +kernel
theorem dX5_write_34 : decode cX5_write 34 = .ok (.iload 4, 2) := by decide +kernel
theorem dX5_write_36 : decode cX5_write 36 = .ok (.istore 4, 2) := by decide +kernel
theorem dX5_write_38 : decode cX5_write 38 = .ok (.iload 4, 2) := by decide +kernel
theorem dX5_write_40 : decode cX5_write 40 = .ok (.ifCond .lt 10, 3) := by decide +kernel
theorem dX5_write_43 : decode cX5_write 43 = .ok (.aload_n 0, 1) := by decide +kernel
theorem dX5_write_44 : decode cX5_write 44 = .ok (.iload 4, 2) := by decide +kernel
theorem dX5_write_46 : decode cX5_write 46 = .ok (.invokevirtual 108, 3) := by decide +kernel
theorem dX5_write_49 : decode cX5_write 49 = .ok (.ireturn, 1) := by decide +kernel
theorem dX5_write_50 : decode cX5_write 50 = .ok (.aload_n 0, 1) := by decide +kernel
theorem dX5_write_51 : decode cX5_write 51 = .ok (.getfield 35, 3) := by decide +kernel
theorem dX5_write_54 : decode cX5_write 54 = .ok (.bipush 40, 2) := by decide +kernel
theorem dX5_write_56 : decode cX5_write 56 = .ok (.iload_n 1, 1) := by decide +kernel
theorem dX5_write_57 : decode cX5_write 57 = .ok (.imul, 1) := by decide +kernel
theorem dX5_write_58 : decode cX5_write 58 = .ok (.iload_n 2, 1) := by decide +kernel
theorem dX5_write_59 : decode cX5_write 59 = .ok (.iadd, 1) := by decide +kernel
theorem dX5_write_60 : decode cX5_write 60 = .ok (.aload_n 0, 1) := by decide +kernel
theorem dX5_write_61 : decode cX5_write 61 = .ok (.getfield 29, 3) := by decide +kernel
theorem dX5_write_64 : decode cX5_write 64 = .ok (.iload_n 1, 1) := by decide +kernel
theorem dX5_write_65 : decode cX5_write 65 = .ok (.iaload, 1) := by decide +kernel
theorem dX5_write_66 : decode cX5_write 66 = .ok (.bipush 8, 2) := by decide +kernel
theorem dX5_write_68 : decode cX5_write 68 = .ok (.if_icmp .ne 8, 3) := by decide +kernel
theorem dX5_write_71 : decode cX5_write 71 = .ok (.iload_n 3, 1) := by decide +kernel
theorem dX5_write_72 : decode cX5_write 72 = .ok (.i2b, 1) := by decide +kernel
theorem dX5_write_73 : decode cX5_write 73 = .ok (.goto 20, 3) := by decide +kernel
theorem dX5_write_76 : decode cX5_write 76 = .ok (.aload_n 0, 1) := by decide +kernel
theorem dX5_write_77 : decode cX5_write 77 = .ok (.getfield 29, 3) := by decide +kernel
theorem dX5_write_80 : decode cX5_write 80 = .ok (.iload_n 1, 1) := by decide +kernel
theorem dX5_write_81 : decode cX5_write 81 = .ok (.iaload, 1) := by decide +kernel
theorem dX5_write_82 : decode cX5_write 82 = .ok (.bipush 16, 2) := by decide +kernel
theorem dX5_write_84 : decode cX5_write 84 = .ok (.if_icmp .ne 8, 3) := by decide +kernel
theorem dX5_write_87 : decode cX5_write 87 = .ok (.iload_n 3, 1) := by decide +kernel
theorem dX5_write_88 : decode cX5_write 88 = .ok (.i2s, 1) := by decide +kernel
theorem dX5_write_89 : decode cX5_write 89 = .ok (.goto 4, 3) := by decide +kernel
theorem dX5_write_92 : decode cX5_write 92 = .ok (.iload_n 3, 1) := by decide +kernel
theorem dX5_write_93 : decode cX5_write 93 = .ok (.iastore, 1) := by decide +kernel
theorem dX5_write_94 : decode cX5_write 94 = .ok (.iconst 1, 1) := by decide +kernel
theorem dX5_write_95 : decode cX5_write 95 = .ok (.ireturn, 1) := by decide +kernel
theorem dX5_copy_0 : decode cX5_copy 0 = .ok (.iload_n 1, 1) := by decide +kernel
theorem dX5_copy_1 : decode cX5_copy 1 = .ok (.invokestatic 296, 3) := by decide +kernel
theorem dX5_copy_4 : decode cX5_copy 4 = .ok (.ifCond .eq 10, 3) := by decide +kernel
theorem dX5_copy_7 : decode cX5_copy 7 = .ok (.iload_n 3, 1) := by decide +kernel
theorem dX5_copy_8 : decode cX5_copy 8 = .ok (.invokestatic 296, 3) := by decide +kernel
theorem dX5_copy_11 : decode cX5_copy 11 = .ok (.ifCond .ne 9, 3) := by decide +kernel
theorem dX5_copy_14 : decode cX5_copy 14 = .ok (.aload_n 0, 1) := by decide +kernel
theorem dX5_copy_15 : decode cX5_copy 15 = .ok (.iconst 0, 1) := by decide +kernel
theorem dX5_copy_16 : decode cX5_copy 16 = .ok (.invokevirtual 108, 3) := by decide +kernel
theorem dX5_copy_19 : decode cX5_copy 19 = .ok (.ireturn, 1) := by decide +kernel
theorem dX5_copy_20 : decode cX5_copy 20 = .ok (.aload_n 0, 1) := by decide +kernel
theorem dX5_copy_21 : decode cX5_copy 21 = .ok (.getfield 29, 3) := by decide +kernel
theorem dX5_copy_24 : decode cX5_copy 24 = .ok (.iload_n 1, 1) := by decide +kernel
theorem dX5_copy_25 : decode cX5_copy 25 = .ok (.iaload, 1) := by decide +kernel
theorem dX5_copy_26 : decode cX5_copy 26 = .ok (.ifCond .eq 12, 3) := by decide +kernel
theorem dX5_copy_29 : decode cX5_copy 29 = .ok (.aload_n 0, 1) := by decide +kernel
theorem dX5_copy_30 : decode cX5_copy 30 = .ok (.getfield 29, 3) := by decide +kernel
theorem dX5_copy_33 : decode cX5_copy 33 = .ok (.iload_n 3, 1) := by decide +kernel
theorem dX5_copy_34 : decode cX5_copy 34 = .ok (.iaload, 1) := by decide +kernel
theorem dX5_copy_35 : decode cX5_copy 35 = .ok (.ifCond .ne 9, 3) := by decide +kernel
theorem dX5_copy_38 : decode cX5_copy 38 = .ok (.aload_n 0, 1) := by decide +kernel
theorem dX5_copy_39 : decode cX5_copy 39 = .ok (.iconst 5, 1) := by decide +kernel
theorem dX5_copy_40 : decode cX5_copy 40 = .ok (.invokevirtual 108, 3) := by decide +kernel
theorem dX5_copy_43 : decode cX5_copy 43 = .ok (.ireturn, 1) := by decide +kernel
theorem dX5_copy_44 : decode cX5_copy 44 = .ok (.aload_n 0, 1) := by decide +kernel
theorem dX5_copy_45 : decode cX5_copy 45 = .ok (.getfield 29, 3) := by decide +kernel
theorem dX5_copy_48 : decode cX5_copy 48 = .ok (.iload_n 1, 1) := by decide +kernel
theorem dX5_copy_49 : decode cX5_copy 49 = .ok (.iaload, 1) := by decide +kernel
theorem dX5_copy_50 : decode cX5_copy 50 = .ok (.aload_n 0, 1) := by decide +kernel
theorem dX5_copy_51 : decode cX5_copy 51 = .ok (.getfield 29, 3) := by decide +kernel
theorem dX5_copy_54 : decode cX5_copy 54 = .ok (.iload_n 3, 1) := by decide +kernel
theorem dX5_copy_55 : decode cX5_copy 55 = .ok (.iaload, 1) := by decide +kernel
theorem dX5_copy_56 : decode cX5_copy 56 = .ok (.if_icmp .eq 9, 3) := by decide +kernel
theorem dX5_copy_59 : decode cX5_copy 59 = .ok (.aload_n 0, 1) := by decide +kernel
theorem dX5_copy_60 : decode cX5_copy 60 = .ok (.iconst 2, 1) := by decide +kernel
theorem dX5_copy_61 : decode cX5_copy 61 = .ok (.invokevirtual 108, 3) := by decide +kernel
theorem dX5_copy_64 : decode cX5_copy 64 = .ok (.ireturn, 1) := by decide +kernel
theorem dX5_copy_65 : decode cX5_copy 65 = .ok (.iload_n 2, 1) := by decide +kernel
theorem dX5_copy_66 : decode cX5_copy 66 = .ok (.ifCond .lt 48, 3) := by decide +kernel
theorem dX5_copy_69 : decode cX5_copy 69 = .ok (.iload 4, 2) := by decide +kernel
theorem dX5_copy_71 : decode cX5_copy 71 = .ok (.ifCond .lt 43, 3) := by decide +kernel
theorem dX5_copy_74 : decode cX5_copy 74 = .ok (.iload 5, 2) := by decide +kernel
theorem dX5_copy_76 : decode cX5_copy 76 = .ok (.ifCond .lt 38, 3) := by decide +kernel
theorem dX5_copy_79 : decode cX5_copy 79 = .ok (.iload_n 2, 1) := by decide +kernel
theorem dX5_copy_80 : decode cX5_copy 80 = .ok (.i2l, 1) := by decide +kernel
theorem dX5_copy_81 : decode cX5_copy 81 = .ok (.iload 5, 2) := by decide +kernel
theorem dX5_copy_83 : decode cX5_copy 83 = .ok (.i2l, 1) := by decide +kernel
theorem dX5_copy_84 : decode cX5_copy 84 = .ok (.ladd, 1) := by decide +kernel
theorem dX5_copy_85 : decode cX5_copy 85 = .ok (.aload_n 0, 1) := by decide +kernel
theorem dX5_copy_86 : decode cX5_copy 86 = .ok (.getfield 32, 3) := by decide +kernel
theorem dX5_copy_89 : decode cX5_copy 89 = .ok (.iload_n 1, 1) := by decide +kernel
theorem dX5_copy_90 : decode cX5_copy 90 = .ok (.iaload, 1) := by decide +kernel
theorem dX5_copy_91 : decode cX5_copy 91 = .ok (.i2l, 1) := by decide +kernel
theorem dX5_copy_92 : decode cX5_copy 92 = .ok (.lcmp, 1) := by decide +kernel
theorem dX5_copy_93 : decode cX5_copy 93 = .ok (.ifCond .gt 21, 3) := by decide +kernel
theorem dX5_copy_96 : decode cX5_copy 96 = .ok (.iload 4, 2) := by decide +kernel
theorem dX5_copy_98 : decode cX5_copy 98 = .ok (.i2l, 1) := by decide +kernel
theorem dX5_copy_99 : decode cX5_copy 99 = .ok (.iload 5, 2) := by decide +kernel
theorem dX5_copy_101 : decode cX5_copy 101 = .ok (.i2l, 1) := by decide +kernel
theorem dX5_copy_102 : decode cX5_copy 102 = .ok (.ladd, 1) := by decide +kernel
theorem dX5_copy_103 : decode cX5_copy 103 = .ok (.aload_n 0, 1) := by decide +kernel
theorem dX5_copy_104 : decode cX5_copy 104 = .ok (.getfield 32, 3) := by decide +kernel
theorem dX5_copy_107 : decode cX5_copy 107 = .ok (.iload_n 3, 1) := by decide +kernel
theorem dX5_copy_108 : decode cX5_copy 108 = .ok (.iaload, 1) := by decide +kernel
theorem dX5_copy_109 : decode cX5_copy 109 = .ok (.i2l, 1) := by decide +kernel
theorem dX5_copy_110 : decode cX5_copy 110 = .ok (.lcmp, 1) := by decide +kernel
theorem dX5_copy_111 : decode cX5_copy 111 = .ok (.ifCond .le 9, 3) := by decide +kernel
theorem dX5_copy_114 : decode cX5_copy 114 = .ok (.aload_n 0, 1) := by decide +kernel
theorem dX5_copy_115 : decode cX5_copy 115 = .ok (.iconst 0, 1) := by decide +kernel
theorem dX5_copy_116 : decode cX5_copy 116 = .ok (.invokevirtual 108, 3) := by decide +kernel
theorem dX5_copy_119 : decode cX5_copy 119 = .ok (.ireturn, 1) := by decide +kernel
theorem dX5_copy_120 : decode cX5_copy 120 = .ok (.iconst 0, 1) := by decide +kernel
theorem dX5_copy_121 : decode cX5_copy 121 = .ok (.istore 6, 2) := by decide +kernel
theorem dX5_copy_123 : decode cX5_copy 123 = .ok (.iload 6, 2) := by decide +kernel
theorem dX5_copy_125 : decode cX5_copy 125 = .ok (.iload 5, 2) := by decide +kernel
theorem dX5_copy_127 : decode cX5_copy 127 = .ok (.if_icmp .ge 30, 3) := by decide +kernel
theorem dX5_copy_130 : decode cX5_copy 130 = .ok (.aload_n 0, 1) := by decide +kernel
theorem dX5_copy_131 : decode cX5_copy 131 = .ok (.getfield 38, 3) := by decide +kernel
theorem dX5_copy_134 : decode cX5_copy 134 = .ok (.iload 6, 2) := by decide +kernel
theorem dX5_copy_136 : decode cX5_copy 136 = .ok (.aload_n 0, 1) := by decide +kernel
theorem dX5_copy_137 : decode cX5_copy 137 = .ok (.getfield 35, 3) := by decide +kernel
theorem dX5_copy_140 : decode cX5_copy 140 = .ok (.bipush 40, 2) := by decide +kernel
theorem dX5_copy_142 : decode cX5_copy 142 = .ok (.iload_n 1, 1) := by decide +kernel
theorem dX5_copy_143 : decode cX5_copy 143 = .ok (.imul, 1) := by decide +kernel
theorem dX5_copy_144 : decode cX5_copy 144 = .ok (.iload_n 2, 1) := by decide +kernel
theorem dX5_copy_145 : decode cX5_copy 145 = .ok (.iadd, 1) := by decide +kernel
theorem dX5_copy_146 : decode cX5_copy 146 = .ok (.iload 6, 2) := by decide +kernel
theorem dX5_copy_148 : decode cX5_copy 148 = .ok (.iadd, 1) := by decide +kernel
theorem dX5_copy_149 : decode cX5_copy 149 = .ok (.iaload, 1) := by decide +kernel
theorem dX5_copy_150 : decode cX5_copy 150 = .ok (.iastore, 1) := by decide +kernel
theorem dX5_copy_151 : decode cX5_copy 151 = .ok (.iinc 6 1, 3) := by decide +kernel
theorem dX5_copy_154 : decode cX5_copy 154 = .ok (.goto (-31), 3) := by decide +kernel
theorem dX5_copy_157 : decode cX5_copy 157 = .ok (.iconst 0, 1) := by decide +kernel
theorem dX5_copy_158 : decode cX5_copy 158 = .ok (.istore 6, 2) := by decide +kernel
theorem dX5_copy_160 : decode cX5_copy 160 = .ok (.iload 6, 2) := by decide +kernel
theorem dX5_copy_162 : decode cX5_copy 162 = .ok (.iload 5, 2) := by decide +kernel
theorem dX5_copy_164 : decode cX5_copy 164 = .ok (.if_icmp .ge 31, 3) := by decide +kernel
theorem dX5_copy_167 : decode cX5_copy 167 = .ok (.aload_n 0, 1) := by decide +kernel
theorem dX5_copy_168 : decode cX5_copy 168 = .ok (.getfield 35, 3) := by decide +kernel
theorem dX5_copy_171 : decode cX5_copy 171 = .ok (.bipush 40, 2) := by decide +kernel
theorem dX5_copy_173 : decode cX5_copy 173 = .ok (.iload_n 3, 1) := by decide +kernel
theorem dX5_copy_174 : decode cX5_copy 174 = .ok (.imul, 1) := by decide +kernel
theorem dX5_copy_175 : decode cX5_copy 175 = .ok (.iload 4, 2) := by decide +kernel
theorem dX5_copy_177 : decode cX5_copy 177 = .ok (.iadd, 1) := by decide +kernel
theorem dX5_copy_178 : decode cX5_copy 178 = .ok (.iload 6, 2) := by decide +kernel
theorem dX5_copy_180 : decode cX5_copy 180 = .ok (.iadd, 1) := by decide +kernel
theorem dX5_copy_181 : decode cX5_copy 181 = .ok (.aload_n 0, 1) := by decide +kernel
theorem dX5_copy_182 : decode cX5_copy 182 = .ok (.getfield 38, 3) := by decide +kernel
theorem dX5_copy_185 : decode cX5_copy 185 = .ok (.iload 6, 2) := by decide +kernel
theorem dX5_copy_187 : decode cX5_copy 187 = .ok (.iaload, 1) := by decide +kernel
theorem dX5_copy_188 : decode cX5_copy 188 = .ok (.iastore, 1) := by decide +kernel
theorem dX5_copy_189 : decode cX5_copy 189 = .ok (.iinc 6 1, 3) := by decide +kernel
theorem dX5_copy_192 : decode cX5_copy 192 = .ok (.goto (-32), 3) := by decide +kernel
theorem dX5_copy_195 : decode cX5_copy 195 = .ok (.iload 5, 2) := by decide +kernel
theorem dX5_copy_197 : decode cX5_copy 197 = .ok (.ireturn, 1) := by decide +kernel
theorem dX5_load_0 : decode cX5_load 0 = .ok (.aload_n 0, 1) := by decide +kernel
theorem dX5_load_1 : decode cX5_load 1 = .ok (.iload_n 1, 1) := by decide +kernel
theorem dX5_load_2 : decode cX5_load 2 = .ok (.invokevirtual 173, 3) := by decide +kernel
theorem dX5_load_5 : decode cX5_load 5 = .ok (.istore_n 2, 1) := by decide +kernel
theorem dX5_load_6 : decode cX5_load 6 = .ok (.iload_n 2, 1) := by decide +kernel
theorem dX5_load_7 : decode cX5_load 7 = .ok (.ifCond .lt 9, 3) := by decide +kernel
theorem dX5_load_10 : decode cX5_load 10 = .ok (.aload_n 0, 1) := by decide +kernel
theorem dX5_load_11 : decode cX5_load 11 = .ok (.iload_n 2, 1) := by decide +kernel
theorem dX5_load_12 : decode cX5_load 12 = .ok (.invokevirtual 108, 3) := by decide +kernel
theorem dX5_load_15 : decode cX5_load 15 = .ok (.ireturn, 1) := by decide +kernel
theorem dX5_load_16 : decode cX5_load 16 = .ok (.iconst 0, 1) := by decide +kernel
theorem dX5_load_17 : decode cX5_load 17 = .ok (.istore_n 3, 1) := by decide +kernel
theorem dX5_load_18 : decode cX5_load 18 = .ok (.iload_n 3, 1) := by decide +kernel
theorem dX5_load_19 : decode cX5_load 19 = .ok (.aload_n 0, 1) := by decide +kernel
theorem dX5_load_20 : decode cX5_load 20 = .ok (.getfield 32, 3) := by decide +kernel
theorem dX5_load_23 : decode cX5_load 23 = .ok (.iload_n 1, 1) := by decide +kernel
theorem dX5_load_24 : decode cX5_load 24 = .ok (.iaload, 1) := by decide +kernel
theorem dX5_load_25 : decode cX5_load 25 = .ok (.if_icmp .ge 57, 3) := by decide +kernel
theorem dX5_load_28 : decode cX5_load 28 = .ok (.iload_n 3, 1) := by decide +kernel
theorem dX5_load_29 : decode cX5_load 29 = .ok (.bipush 6, 2) := by decide +kernel
theorem dX5_load_31 : decode cX5_load 31 = .ok (.if_icmp .ge 51, 3) := by decide +kernel
theorem dX5_load_34 : decode cX5_load 34 = .ok (.aload_n 0, 1) := by decide +kernel
theorem dX5_load_35 : decode cX5_load 35 = .ok (.getfield 35, 3) := by decide +kernel
theorem dX5_load_38 : decode cX5_load 38 = .ok (.bipush 40, 2) := by decide +kernel
theorem dX5_load_40 : decode cX5_load 40 = .ok (.iload_n 1, 1) := by decide +kernel
theorem dX5_load_41 : decode cX5_load 41 = .ok (.imul, 1) := by decide +kernel
theorem dX5_load_42 : decode cX5_load 42 = .ok (.iload_n 3, 1) := by decide +kernel
theorem dX5_load_43 : decode cX5_load 43 = .ok (.iadd, 1) := by decide +kernel
theorem dX5_load_44 : decode cX5_load 44 = .ok (.iaload, 1) := by decide +kernel
theorem dX5_load_45 : decode cX5_load 45 = .ok (.i2l, 1) := by decide +kernel
theorem dX5_load_46 : decode cX5_load 46 = .ok (.lconst 0, 1) := by decide +kernel
theorem dX5_load_47 : decode cX5_load 47 = .ok (.ldc2_w 118, 3) := by decide +kernel
theorem dX5_load_50 : decode cX5_load 50 = .ok (.invokestatic 42, 3) := by decide +kernel
theorem dX5_load_53 : decode cX5_load 53 = .ok (.ifCond .eq 29, 3) := by decide +kernel
theorem dX5_load_56 : decode cX5_load 56 = .ok (.aload_n 0, 1) := by decide +kernel
theorem dX5_load_57 : decode cX5_load 57 = .ok (.getfield 7, 3) := by decide +kernel
theorem dX5_load_60 : decode cX5_load 60 = .ok (.bipush 7, 2) := by decide +kernel
theorem dX5_load_62 : decode cX5_load 62 = .ok (.iload_n 3, 1) := by decide +kernel
theorem dX5_load_63 : decode cX5_load 63 = .ok (.iadd, 1) := by decide +kernel
theorem dX5_load_64 : decode cX5_load 64 = .ok (.aload_n 0, 1) := by decide +kernel
theorem dX5_load_65 : decode cX5_load 65 = .ok (.getfield 35, 3) := by decide +kernel
theorem dX5_load_68 : decode cX5_load 68 = .ok (.bipush 40, 2) := by decide +kernel
theorem dX5_load_70 : decode cX5_load 70 = .ok (.iload_n 1, 1) := by decide +kernel
theorem dX5_load_71 : decode cX5_load 71 = .ok (.imul, 1) := by decide +kernel
theorem dX5_load_72 : decode cX5_load 72 = .ok (.iload_n 3, 1) := by decide +kernel
theorem dX5_load_73 : decode cX5_load 73 = .ok (.iadd, 1) := by decide +kernel
theorem dX5_load_74 : decode cX5_load 74 = .ok (.iaload, 1) := by decide +kernel
theorem dX5_load_75 : decode cX5_load 75 = .ok (.iastore, 1) := by decide +kernel
theorem dX5_load_76 : decode cX5_load 76 = .ok (.iinc 3 1, 3) := by decide +kernel
theorem dX5_load_79 : decode cX5_load 79 = .ok (.goto (-61), 3) := by decide +kernel
theorem dX5_load_82 : decode cX5_load 82 = .ok (.iload_n 3, 1) := by decide +kernel
theorem dX5_load_83 : decode cX5_load 83 = .ok (.ireturn, 1) := by decide +kernel
theorem dX5_judge_0 : decode cX5_judge 0 = .ok (.aload_n 0, 1) := by decide +kernel
theorem dX5_judge_1 : decode cX5_judge 1 = .ok (.iload_n 1, 1) := by decide +kernel
theorem dX5_judge_2 : decode cX5_judge 2 = .ok (.invokevirtual 173, 3) := by decide +kernel
theorem dX5_judge_5 : decode cX5_judge 5 = .ok (.istore_n 2, 1) := by decide +kernel
theorem dX5_judge_6 : decode cX5_judge 6 = .ok (.iload_n 2, 1) := by decide +kernel
theorem dX5_judge_7 : decode cX5_judge 7 = .ok (.ifCond .lt 9, 3) := by decide +kernel
theorem dX5_judge_10 : decode cX5_judge 10 = .ok (.aload_n 0, 1) := by decide +kernel
theorem dX5_judge_11 : decode cX5_judge 11 = .ok (.iload_n 2, 1) := by decide +kernel
theorem dX5_judge_12 : decode cX5_judge 12 = .ok (.invokevirtual 108, 3) := by decide +kernel
theorem dX5_judge_15 : decode cX5_judge 15 = .ok (.ireturn, 1) := by decide +kernel
theorem dX5_judge_16 : decode cX5_judge 16 = .ok (.iconst 0, 1) := by decide +kernel
theorem dX5_judge_17 : decode cX5_judge 17 = .ok (.istore_n 3, 1) := by decide +kernel
theorem dX5_judge_18 : decode cX5_judge 18 = .ok (.iload_n 3, 1) := by decide +kernel
theorem dX5_judge_19 : decode cX5_judge 19 = .ok (.aload_n 0, 1) := by decide +kernel
theorem dX5_judge_20 : decode cX5_judge 20 = .ok (.getfield 32, 3) := by decide +kernel
theorem dX5_judge_23 : decode cX5_judge 23 = .ok (.iload_n 1, 1) := by decide +kernel
theorem dX5_judge_24 : decode cX5_judge 24 = .ok (.iaload, 1) := by decide +kernel
theorem dX5_judge_25 : decode cX5_judge 25 = .ok (.if_icmp .ge 41, 3) := by decide +kernel
theorem dX5_judge_28 : decode cX5_judge 28 = .ok (.aload_n 0, 1) := by decide +kernel
theorem dX5_judge_29 : decode cX5_judge 29 = .ok (.iload_n 3, 1) := by decide +kernel
theorem dX5_judge_30 : decode cX5_judge 30 = .ok (.invokevirtual 125, 3) := by decide +kernel
theorem dX5_judge_33 : decode cX5_judge 33 = .ok (.ifCond .eq 23, 3) := by decide +kernel
theorem dX5_judge_36 : decode cX5_judge 36 = .ok (.aload_n 0, 1) := by decide +kernel
theorem dX5_judge_37 : decode cX5_judge 37 = .ok (.getfield 35, 3) := by decide +kernel
theorem dX5_judge_40 : decode cX5_judge 40 = .ok (.bipush 40, 2) := by decide +kernel
theorem dX5_judge_42 : decode cX5_judge 42 = .ok (.iload_n 1, 1) := by decide +kernel
theorem dX5_judge_43 : decode cX5_judge 43 = .ok (.imul, 1) := by decide +kernel
theorem dX5_judge_44 : decode cX5_judge 44 = .ok (.iload_n 3, 1) := by decide +kernel
theorem dX5_judge_45 : decode cX5_judge 45 = .ok (.iadd, 1) := by decide +kernel
theorem dX5_judge_46 : decode cX5_judge 46 = .ok (.iaload, 1) := by decide +kernel
theorem dX5_judge_47 : decode cX5_judge 47 = .ok (.aload_n 0, 1) := by decide +kernel
theorem dX5_judge_48 : decode cX5_judge 48 = .ok (.iload_n 3, 1) := by decide +kernel
theorem dX5_judge_49 : decode cX5_judge 49 = .ok (.iconst 1, 1) := by decide +kernel
theorem dX5_judge_50 : decode cX5_judge 50 = .ok (.invokevirtual 46, 3) := by decide +kernel
theorem dX5_judge_53 : decode cX5_judge 53 = .ok (.if_icmp .eq 7, 3) := by decide +kernel
theorem dX5_judge_56 : decode cX5_judge 56 = .ok (.iconst 1, 1) := by decide +kernel
theorem dX5_judge_57 : decode cX5_judge 57 = .ok (.iload_n 3, 1) := by decide +kernel
theorem dX5_judge_58 : decode cX5_judge 58 = .ok (.iadd, 1) := by decide +kernel
theorem dX5_judge_59 : decode cX5_judge 59 = .ok (.ireturn, 1) := by decide +kernel
theorem dX5_judge_60 : decode cX5_judge 60 = .ok (.iinc 3 1, 3) := by decide +kernel
theorem dX5_judge_63 : decode cX5_judge 63 = .ok (.goto (-45), 3) := by decide +kernel
theorem dX5_judge_66 : decode cX5_judge 66 = .ok (.iconst 0, 1) := by decide +kernel
theorem dX5_judge_67 : decode cX5_judge 67 = .ok (.ireturn, 1) := by decide +kernel
theorem dX5_image_0 : decode cX5_image 0 = .ok (.aload_n 0, 1) := by decide +kernel
theorem dX5_image_1 : decode cX5_image 1 = .ok (.getfield 7, 3) := by decide +kernel
theorem dX5_image_4 : decode cX5_image 4 = .ok (.aload_n 0, 1) := by decide +kernel
theorem dX5_image_5 : decode cX5_image 5 = .ok (.getfield 19, 3) := by decide +kernel
theorem dX5_image_8 : decode cX5_image 8 = .ok (.invokestatic 152, 3) := by decide +kernel
theorem dX5_image_11 : decode cX5_image 11 = .ok (.aload_n 0, 1) := by decide +kernel
theorem dX5_image_12 : decode cX5_image 12 = .ok (.iconst 1, 1) := by decide +kernel
theorem dX5_image_13 : decode cX5_image 13 = .ok (.putfield 299, 3) := by decide +kernel
theorem dX5_image_16 : decode cX5_image 16 = .ok (.iconst 1, 1) := by decide +kernel
theorem dX5_image_17 : decode cX5_image 17 = .ok (.ireturn, 1) := by decide +kernel
theorem dX5_undo_0 : decode cX5_undo 0 = .ok (.aload_n 0, 1) := by decide +kernel
theorem dX5_undo_1 : decode cX5_undo 1 = .ok (.getfield 299, 3) := by decide +kernel
theorem dX5_undo_4 : decode cX5_undo 4 = .ok (.ifCond .ne 9, 3) := by decide +kernel
theorem dX5_undo_7 : decode cX5_undo 7 = .ok (.aload_n 0, 1) := by decide +kernel
theorem dX5_undo_8 : decode cX5_undo 8 = .ok (.iconst 3, 1) := by decide +kernel
theorem dX5_undo_9 : decode cX5_undo 9 = .ok (.invokevirtual 108, 3) := by decide +kernel
theorem dX5_undo_12 : decode cX5_undo 12 = .ok (.ireturn, 1) := by decide +kernel
theorem dX5_undo_13 : decode cX5_undo 13 = .ok (.aload_n 0, 1) := by decide +kernel
theorem dX5_undo_14 : decode cX5_undo 14 = .ok (.getfield 19, 3) := by decide +kernel
theorem dX5_undo_17 : decode cX5_undo 17 = .ok (.aload_n 0, 1) := by decide +kernel
theorem dX5_undo_18 : decode cX5_undo 18 = .ok (.getfield 7, 3) := by decide +kernel
theorem dX5_undo_21 : decode cX5_undo 21 = .ok (.invokestatic 152, 3) := by decide +kernel
theorem dX5_undo_24 : decode cX5_undo 24 = .ok (.aload_n 0, 1) := by decide +kernel
theorem dX5_undo_25 : decode cX5_undo 25 = .ok (.getfield 7, 3) := by decide +kernel
theorem dX5_undo_28 : decode cX5_undo 28 = .ok (.iconst 1, 1) := by decide +kernel
theorem dX5_undo_29 : decode cX5_undo 29 = .ok (.iaload, 1) := by decide +kernel
theorem dX5_undo_30 : decode cX5_undo 30 = .ok (.ireturn, 1) := by decide +kernel
theorem dX5_tear_0 : decode cX5_tear 0 = .ok (.aload_n 0, 1) := by decide +kernel
theorem dX5_tear_1 : decode cX5_tear 1 = .ok (.getfield 299, 3) := by decide +kernel
theorem dX5_tear_4 : decode cX5_tear 4 = .ok (.ifCond .eq 7, 3) := by decide +kernel
theorem dX5_tear_7 : decode cX5_tear 7 = .ok (.iconst 1, 1) := by decide +kernel
theorem dX5_tear_8 : decode cX5_tear 8 = .ok (.goto 4, 3) := by decide +kernel
theorem dX5_tear_11 : decode cX5_tear 11 = .ok (.iconst 0, 1) := by decide +kernel
theorem dX5_tear_12 : decode cX5_tear 12 = .ok (.istore_n 1, 1) := by decide +kernel
theorem dX5_tear_13 : decode cX5_tear 13 = .ok (.aload_n 0, 1) := by decide +kernel
theorem dX5_tear_14 : decode cX5_tear 14 = .ok (.iconst 0, 1) := by decide +kernel
theorem dX5_tear_15 : decode cX5_tear 15 = .ok (.putfield 299, 3) := by decide +kernel
theorem dX5_tear_18 : decode cX5_tear 18 = .ok (.iload_n 1, 1) := by decide +kernel
theorem dX5_tear_19 : decode cX5_tear 19 = .ok (.ireturn, 1) := by decide +kernel
theorem dX5_holding_0 : decode cX5_holding 0 = .ok (.iconst 0, 1) := by decide +kernel
theorem dX5_holding_1 : decode cX5_holding 1 = .ok (.istore_n 1, 1) := by decide +kernel
theorem dX5_holding_2 : decode cX5_holding 2 = .ok (.iconst 0, 1) := by decide +kernel
theorem dX5_holding_3 : decode cX5_holding 3 = .ok (.istore_n 2, 1) := by decide +kernel
theorem dX5_holding_4 : decode cX5_holding 4 = .ok (.iload_n 2, 1) := by decide +kernel
theorem dX5_holding_5 : decode cX5_holding 5 = .ok (.bipush 10, 2) := by decide +kernel
theorem dX5_holding_7 : decode cX5_holding 7 = .ok (.if_icmp .ge 29, 3) := by decide +kernel
theorem dX5_holding_10 : decode cX5_holding 10 = .ok (.iload_n 1, 1) := by decide +kernel
theorem dX5_holding_11 : decode cX5_holding 11 = .ok (.aload_n 0, 1) := by decide +kernel
theorem dX5_holding_12 : decode cX5_holding 12 = .ok (.getfield 7, 3) := by decide +kernel
theorem dX5_holding_15 : decode cX5_holding 15 = .ok (.bipush 53, 2) := by decide +kernel
theorem dX5_holding_17 : decode cX5_holding 17 = .ok (.iload_n 2, 1) := by decide +kernel
theorem dX5_holding_18 : decode cX5_holding 18 = .ok (.iadd, 1) := by decide +kernel
theorem dX5_holding_19 : decode cX5_holding 19 = .ok (.iaload, 1) := by decide +kernel
theorem dX5_holding_20 : decode cX5_holding 20 = .ok (.ifCond .le 7, 3) := by decide +kernel
theorem dX5_holding_23 : decode cX5_holding 23 = .ok (.iconst 1, 1) := by decide +kernel
theorem dX5_holding_24 : decode cX5_holding 24 = .ok (.goto 4, 3) := by decide +kernel
theorem dX5_holding_27 : decode cX5_holding 27 = .ok (.iconst 0, 1) := by decide +kernel
theorem dX5_holding_28 : decode cX5_holding 28 = .ok (.iadd, 1) := by decide +kernel
theorem dX5_holding_29 : decode cX5_holding 29 = .ok (.istore_n 1, 1) := by decide +kernel
theorem dX5_holding_30 : decode cX5_holding 30 = .ok (.iinc 2 1, 3) := by decide +kernel
theorem dX5_holding_33 : decode cX5_holding 33 = .ok (.goto (-29), 3) := by decide +kernel
theorem dX5_holding_36 : decode cX5_holding 36 = .ok (.iload_n 1, 1) := by decide +kernel
theorem dX5_holding_37 : decode cX5_holding 37 = .ok (.ireturn, 1) := by decide +kernel
theorem dX5_count_0 : decode cX5_count 0 = .ok (.iload_n 1, 1) := by decide +kernel
theorem dX5_count_1 : decode cX5_count 1 = .ok (.tableswitch 98 0 7 #[47, 54, 61, 67, 73, 81, 86, 93], 47) := by decide +kernel
theorem dX5_count_48 : decode cX5_count 48 = .ok (.aload_n 0, 1) := by decide +kernel
theorem dX5_count_49 : decode cX5_count 49 = .ok (.getfield 7, 3) := by decide +kernel
theorem dX5_count_52 : decode cX5_count 52 = .ok (.iconst 1, 1) := by decide +kernel
theorem dX5_count_53 : decode cX5_count 53 = .ok (.iaload, 1) := by decide +kernel
theorem dX5_count_54 : decode cX5_count 54 = .ok (.ireturn, 1) := by decide +kernel
theorem dX5_count_55 : decode cX5_count 55 = .ok (.aload_n 0, 1) := by decide +kernel
theorem dX5_count_56 : decode cX5_count 56 = .ok (.getfield 7, 3) := by decide +kernel
theorem dX5_count_59 : decode cX5_count 59 = .ok (.iconst 0, 1) := by decide +kernel
theorem dX5_count_60 : decode cX5_count 60 = .ok (.iaload, 1) := by decide +kernel
theorem dX5_count_61 : decode cX5_count 61 = .ok (.ireturn, 1) := by decide +kernel
theorem dX5_count_62 : decode cX5_count 62 = .ok (.aload_n 0, 1) := by decide +kernel
theorem dX5_count_63 : decode cX5_count 63 = .ok (.iconst 1, 1) := by decide +kernel
theorem dX5_count_64 : decode cX5_count 64 = .ok (.invokevirtual 146, 3) := by decide +kernel
theorem dX5_count_67 : decode cX5_count 67 = .ok (.ireturn, 1) := by decide +kernel
theorem dX5_count_68 : decode cX5_count 68 = .ok (.aload_n 0, 1) := by decide +kernel
theorem dX5_count_69 : decode cX5_count 69 = .ok (.iconst 4, 1) := by decide +kernel
theorem dX5_count_70 : decode cX5_count 70 = .ok (.invokevirtual 146, 3) := by decide +kernel
theorem dX5_count_73 : decode cX5_count 73 = .ok (.ireturn, 1) := by decide +kernel
theorem dX5_count_74 : decode cX5_count 74 = .ok (.aload_n 0, 1) := by decide +kernel
theorem dX5_count_75 : decode cX5_count 75 = .ok (.invokevirtual 149, 3) := by decide +kernel
theorem dX5_count_78 : decode cX5_count 78 = .ok (.invokestatic 78, 3) := by decide +kernel
theorem dX5_count_81 : decode cX5_count 81 = .ok (.ireturn, 1) := by decide +kernel
theorem dX5_count_82 : decode cX5_count 82 = .ok (.aload_n 0, 1) := by decide +kernel
theorem dX5_count_83 : decode cX5_count 83 = .ok (.getfield 189, 3) := by decide +kernel
theorem dX5_count_86 : decode cX5_count 86 = .ok (.ireturn, 1) := by decide +kernel
theorem dX5_count_87 : decode cX5_count 87 = .ok (.aload_n 0, 1) := by decide +kernel
theorem dX5_count_88 : decode cX5_count 88 = .ok (.getfield 7, 3) := by decide +kernel
theorem dX5_count_91 : decode cX5_count 91 = .ok (.iconst 2, 1) := by decide +kernel
theorem dX5_count_92 : decode cX5_count 92 = .ok (.iaload, 1) := by decide +kernel
theorem dX5_count_93 : decode cX5_count 93 = .ok (.ireturn, 1) := by decide +kernel
theorem dX5_count_94 : decode cX5_count 94 = .ok (.aload_n 0, 1) := by decide +kernel
theorem dX5_count_95 : decode cX5_count 95 = .ok (.invokevirtual 303, 3) := by decide +kernel
theorem dX5_count_98 : decode cX5_count 98 = .ok (.ireturn, 1) := by decide +kernel
theorem dX5_count_99 : decode cX5_count 99 = .ok (.aload_n 0, 1) := by decide +kernel
theorem dX5_count_100 : decode cX5_count 100 = .ok (.iconst 0, 1) := by decide +kernel
theorem dX5_count_101 : decode cX5_count 101 = .ok (.invokevirtual 108, 3) := by decide +kernel
theorem dX5_count_104 : decode cX5_count 104 = .ok (.ireturn, 1) := by decide +kernel
theorem dX5_status_0 : decode cX5_status 0 = .ok (.iload_n 1, 1) := by decide +kernel
theorem dX5_status_1 : decode cX5_status 1 = .ok (.i2l, 1) := by decide +kernel
theorem dX5_status_2 : decode cX5_status 2 = .ok (.ldc2_w 130, 3) := by decide +kernel
theorem dX5_status_5 : decode cX5_status 5 = .ok (.ldc2_w 120, 3) := by decide +kernel
theorem dX5_status_8 : decode cX5_status 8 = .ok (.invokestatic 42, 3) := by decide +kernel
theorem dX5_status_11 : decode cX5_status 11 = .ok (.ifCond .ne 9, 3) := by decide +kernel
theorem dX5_status_14 : decode cX5_status 14 = .ok (.aload_n 0, 1) := by decide +kernel
theorem dX5_status_15 : decode cX5_status 15 = .ok (.iconst 0, 1) := by decide +kernel
theorem dX5_status_16 : decode cX5_status 16 = .ok (.invokevirtual 108, 3) := by decide +kernel
theorem dX5_status_19 : decode cX5_status 19 = .ok (.ireturn, 1) := by decide +kernel
theorem dX5_status_20 : decode cX5_status 20 = .ok (.iconst 0, 1) := by decide +kernel
theorem dX5_status_21 : decode cX5_status 21 = .ok (.istore_n 2, 1) := by decide +kernel
theorem dX5_status_22 : decode cX5_status 22 = .ok (.iconst 0, 1) := by decide +kernel
theorem dX5_status_23 : decode cX5_status 23 = .ok (.istore_n 3, 1) := by decide +kernel
theorem dX5_status_24 : decode cX5_status 24 = .ok (.iload_n 3, 1) := by decide +kernel
theorem dX5_status_25 : decode cX5_status 25 = .ok (.bipush 7, 2) := by decide +kernel
theorem dX5_status_27 : decode cX5_status 27 = .ok (.if_icmp .ge 18, 3) := by decide +kernel
theorem dX5_status_30 : decode cX5_status 30 = .ok (.iload_n 2, 1) := by decide +kernel
theorem dX5_status_31 : decode cX5_status 31 = .ok (.aload_n 0, 1) := by decide +kernel
theorem dX5_status_32 : decode cX5_status 32 = .ok (.getfield 22, 3) := by decide +kernel
theorem dX5_status_35 : decode cX5_status 35 = .ok (.iload_n 3, 1) := by decide +kernel
theorem dX5_status_36 : decode cX5_status 36 = .ok (.iaload, 1) := by decide +kernel
theorem dX5_status_37 : decode cX5_status 37 = .ok (.iadd, 1) := by decide +kernel
theorem dX5_status_38 : decode cX5_status 38 = .ok (.istore_n 2, 1) := by decide +kernel
theorem dX5_status_39 : decode cX5_status 39 = .ok (.iinc 3 1, 3) := by decide +kernel
theorem dX5_status_42 : decode cX5_status 42 = .ok (.goto (-18), 3) := by decide +kernel
theorem dX5_status_45 : decode cX5_status 45 = .ok (.iload_n 1, 1) := by decide +kernel
theorem dX5_status_46 : decode cX5_status 46 = .ok (.ifCond .ge 7, 3) := by decide +kernel
theorem dX5_status_49 : decode cX5_status 49 = .ok (.iload_n 2, 1) := by decide +kernel
theorem dX5_status_50 : decode cX5_status 50 = .ok (.goto 9, 3) := by decide +kernel
theorem dX5_status_53 : decode cX5_status 53 = .ok (.aload_n 0, 1) := by decide +kernel
theorem dX5_status_54 : decode cX5_status 54 = .ok (.getfield 22, 3) := by decide +kernel
theorem dX5_status_57 : decode cX5_status 57 = .ok (.iload_n 1, 1) := by decide +kernel
theorem dX5_status_58 : decode cX5_status 58 = .ok (.iaload, 1) := by decide +kernel
theorem dX5_status_59 : decode cX5_status 59 = .ok (.ireturn, 1) := by decide +kernel
end
section

/-! words that every method may use -/
def wg_ok : List Cond := lw_tbl.filter goodWord
abbrev WG (y : MethodName) (b : ByteArray) (n : Nat) (r : Option FieldType) : List Cond := .code y b n r :: wg_ok
theorem wg_in {v : Cond} (h : v ∈ tables_1) (hg : goodWord v = true) : v ∈ wg_ok := List.mem_filter.mpr ⟨List.mem_append_right _ h, hg⟩
theorem wg_sel {v : Cond} (h : v ∈ k2_sels lw_privs) (hg : goodWord v = true) : v ∈ wg_ok := List.mem_filter.mpr ⟨List.mem_append_left _ h, hg⟩
theorem wg_good {v : Cond} (h : v ∈ wg_ok) : (v.onTables && v.keeps) = true ∨ ∃ ty, v = .arrayClass ty := good_of_word (List.mem_filter.mp h).2
theorem wg_goodIn {y : MethodName} {b : ByteArray} {n : Nat} {r : Option FieldType} (hc : Cond.code y b n r ∈ wg_ok) : GoodIn wg_ok (WG y b n r) := by
  intro v hv
  rcases List.mem_cons.mp hv with e | h
  · subst e
    exact ⟨hc, wg_good hc⟩
  · exact ⟨h, wg_good h⟩
/-! shapes of cells: an int array, a byte array, an array of references, an object -/
abbrev Sh : Type := (Nat ⊕ Nat) ⊕ ((Nat × Nat × Nat) ⊕ (Nat × List (Unit ⊕ (Nat ⊕ Unit))))
abbrev sI : Unit ⊕ (Nat ⊕ Unit) := .inl ()
abbrev sR (c : Nat) : Unit ⊕ (Nat ⊕ Unit) := .inr (.inl c)
abbrev sL : Unit ⊕ (Nat ⊕ Unit) := .inr (.inr ())
abbrev shI (n : Nat) : Sh := .inl (.inl n)
abbrev shB (n : Nat) : Sh := .inl (.inr n)
abbrev shA (j n t : Nat) : Sh := .inr (.inl (j, n, t))
abbrev shO (ci : Nat) (fl : List (Unit ⊕ (Nat ⊕ Unit))) : Sh := .inr (.inr (ci, fl))
/-- memory: a row of ints for each cell, and one long -/
abbrev Me : Type := (Nat → Nat → Int32) × Int64
abbrev WC : Type := (Nat → Sh) × Nat × (Nat → Nat) × va_G × (Nat → ClassId) × (State → Prop)
abbrev w_sh (w : WC) : Nat → Sh := w.1
abbrev w_N (w : WC) : Nat := w.2.1
abbrev w_ad (w : WC) : Nat → Nat := w.2.2.1
abbrev w_D (w : WC) : va_G := w.2.2.2.1
abbrev w_cA (w : WC) : Nat → ClassId := w.2.2.2.2.1
abbrev w_X (w : WC) : State → Prop := w.2.2.2.2.2
def fv1 (w : WC) (μ : Me) (k i : Nat) : Unit ⊕ (Nat ⊕ Unit) → Value
  | .inl _ => .int (μ.1 k i)
  | .inr (.inl c) => .ref (w_ad w c)
  | .inr (.inr _) => .long μ.2
def ceS (w : WC) (μ : Me) (k : Nat) : Sh → va_E
  | .inl (.inl n) => .inl (w_cA w 0, n, .inl (μ.1 k))
  | .inl (.inr n) => .inl (w_cA w 1, n, .inl (μ.1 k))
  | .inr (.inl (j, n, t)) => .inl (w_cA w j, n, .inr (.inr (.inr (.inr (fun i => some (w_ad w (t + i)))))))
  | .inr (.inr (ci, fl)) => .inr (ci, fl.mapIdx (fv1 w μ k))
def ce (w : WC) (μ : Me) (k : Nat) : va_E := ceS w μ k (w_sh w k)
def wl (w : WC) (μ : Me) : va_W := (List.range (w_N w)).map (fun k => (w_ad w k, ce w μ k))
def WP (w : WC) (μ : Me) (H : Heap) : Prop := va_P (w_D w) vwCl (wl w μ) H
def AA (w : WC) : Nat → Prop := fun q => ∃ k, k < w_N w ∧ q = w_ad w k
abbrev tys (w : WC) : List (ClassId × FieldType) := [(w_cA w 0, .int), (w_cA w 1, .byte), (w_cA w 2, .object "SundayVisits$Resident"), (w_cA w 3, .object "SundayVisits$Sheet")]
def Okw (w : WC) : Prop := (∀ i j, i < w_N w → j < w_N w → w_ad w i = w_ad w j → i = j) ∧ ∀ u U : State, u.WarmedH U.vm → u.heap.size ≤ U.heap.size → (∀ q : Nat, q < u.heap.size → ¬ AA w q → U.heap[q]? = u.heap[q]?) → w_X w u → w_X w U
/-- a row of the memory changes; one place; the long -/
def ua (μ : Me) (k : Nat) (f : Nat → Int32) : Me := (fun a => if a = k then f else μ.1 a, μ.2)
def up (μ : Me) (k i : Nat) (v : Int32) : Me := ua μ k (upd (μ.1 k) i v)
def ul (μ : Me) (v : Int64) : Me := (μ.1, v)
theorem ua_s (μ : Me) (k : Nat) (f : Nat → Int32) : (ua μ k f).1 k = f := if_pos rfl
theorem ua_n (μ : Me) {k a : Nat} (f : Nat → Int32) (h : a ≠ k) : (ua μ k f).1 a = μ.1 a := if_neg h
theorem ua_2 (μ : Me) (k : Nat) (f : Nat → Int32) : (ua μ k f).2 = μ.2 := rfl
theorem up_s (μ : Me) (k i : Nat) (v : Int32) : (up μ k i v).1 k i = v := by unfold up; rw [ua_s]; exact if_pos rfl
theorem up_r (μ : Me) (k i : Nat) (v : Int32) : (up μ k i v).1 k = upd (μ.1 k) i v := ua_s _ _ _
theorem up_n (μ : Me) {k a : Nat} (i : Nat) (v : Int32) (h : a ≠ k) : (up μ k i v).1 a = μ.1 a := ua_n _ _ h
theorem up_i (μ : Me) (k : Nat) {i b : Nat} (v : Int32) (h : b ≠ i) : (up μ k i v).1 k b = μ.1 k b := by rw [up_r]; exact if_neg h
theorem up_2 (μ : Me) (k i : Nat) (v : Int32) : (up μ k i v).2 = μ.2 := rfl
theorem up_if (μ : Me) (k i : Nat) (v : Int32) (a b : Nat) : (up μ k i v).1 a b = if a = k ∧ b = i then v else μ.1 a b := by
  by_cases h : a = k
  · subst h
    rw [up_r]
    by_cases h2 : b = i
    · rw [if_pos ⟨rfl, h2⟩]; exact if_pos h2
    · rw [if_neg (fun q => h2 q.2)]; exact if_neg h2
  · rw [up_n _ _ _ h, if_neg (fun q => h q.1)]
theorem wl_get {w : WC} (μ : Me) {k : Nat} (h : k < w_N w) : (wl w μ)[k]? = some (w_ad w k, ce w μ k) := by
  unfold wl
  rw [List.getElem?_map, List.getElem?_range h]
  rfl
theorem wl_len (w : WC) (μ : Me) : (wl w μ).length = w_N w := by simp [wl]
theorem wl_set {w : WC} {μ μ' : Me} {k : Nat} {e : va_E} (he : ce w μ' k = e) (ho : ∀ j, j < w_N w → j ≠ k → ce w μ' j = ce w μ j) : (wl w μ).set k (w_ad w k, e) = wl w μ' := by
  apply List.ext_getElem?
  intro i
  by_cases hi : i < w_N w
  · rw [wl_get μ' hi]
    by_cases hk : i = k
    · subst hk
      rw [List.getElem?_set_self (by rw [wl_len]; exact hi), he]
    · rw [List.getElem?_set_ne (fun h => hk h.symm), wl_get μ hi, ho i hi hk]
  · rw [List.getElem?_eq_none (by rw [List.length_set, wl_len]; omega), List.getElem?_eq_none (by rw [wl_len]; omega)]
theorem wl_D {w : WC} (h : Okw w) (μ : Me) : va_D (AA w) (wl w μ) := by
  have key : ∀ (k : Nat) (q : Nat × va_E), (wl w μ)[k]? = some q → k < w_N w ∧ q = (w_ad w k, ce w μ k) := by
    intro k q hq
    have hk : k < w_N w := by
      have := (List.getElem?_eq_some_iff.mp hq).1
      rwa [wl_len] at this
    rw [wl_get μ hk] at hq
    exact ⟨hk, (Option.some.inj hq).symm⟩
  refine ⟨fun i j p q hp hq e => ?_, fun k q hq => ?_⟩
  · obtain ⟨h1, e1⟩ := key i p hp
    obtain ⟨h2, e2⟩ := key j q hq
    subst e1; subst e2
    exact h.1 i j h1 h2 e
  · obtain ⟨h1, e1⟩ := key k q hq
    subst e1
    exact ⟨k, h1, rfl⟩
theorem ceS_congr {w : WC} {μ μ' : Me} {k : Nat} (h1 : μ'.1 k = μ.1 k) (h2 : μ'.2 = μ.2) (s : Sh) : ceS w μ' k s = ceS w μ k s := by
  match s with
  | .inl (.inl n) => simp only [ceS, h1]
  | .inl (.inr n) => simp only [ceS, h1]
  | .inr (.inl (j, n, t)) => rfl
  | .inr (.inr (ci, fl)) =>
    have : fv1 w μ' k = fv1 w μ k := by
      funext i f
      match f with
      | .inl _ => simp only [fv1, h1]
      | .inr (.inl c) => rfl
      | .inr (.inr _) => simp only [fv1, h2]
    simp only [ceS, this]
theorem ce_I {w : WC} (μ : Me) {k n : Nat} (h : w_sh w k = shI n) : ce w μ k = .inl (w_cA w 0, n, .inl (μ.1 k)) := by unfold ce; rw [h]; rfl
theorem ce_B {w : WC} (μ : Me) {k n : Nat} (h : w_sh w k = shB n) : ce w μ k = .inl (w_cA w 1, n, .inl (μ.1 k)) := by unfold ce; rw [h]; rfl
theorem ce_A {w : WC} (μ : Me) {k j n t : Nat} (h : w_sh w k = shA j n t) : ce w μ k = .inl (w_cA w j, n, .inr (.inr (.inr (.inr (fun i => some (w_ad w (t + i))))))) := by unfold ce; rw [h]; rfl
theorem ce_O {w : WC} (μ : Me) {k ci : Nat} {fl : List (Unit ⊕ (Nat ⊕ Unit))} (h : w_sh w k = shO ci fl) : ce w μ k = .inr (ci, fl.mapIdx (fv1 w μ k)) := by unfold ce; rw [h]; rfl
theorem wl_ua_I {w : WC} {μ : Me} {k n : Nat} (h : w_sh w k = shI n) (f : Nat → Int32) : (wl w μ).set k (w_ad w k, .inl (w_cA w 0, n, .inl f)) = wl w (ua μ k f) := by
  refine wl_set ?_ (fun j _ hj => ?_)
  · rw [ce_I _ h, ua_s]
  · unfold ce; exact ceS_congr (ua_n _ _ hj) rfl _
theorem wl_ua_B {w : WC} {μ : Me} {k n : Nat} (h : w_sh w k = shB n) (f : Nat → Int32) : (wl w μ).set k (w_ad w k, .inl (w_cA w 1, n, .inl f)) = wl w (ua μ k f) := by
  refine wl_set ?_ (fun j _ hj => ?_)
  · rw [ce_B _ h, ua_s]
  · unfold ce; exact ceS_congr (ua_n _ _ hj) rfl _
theorem wl_up_O {w : WC} {μ : Me} {k ci i : Nat} {fl : List (Unit ⊕ (Nat ⊕ Unit))} (h : w_sh w k = shO ci fl) (hf : fl[i]? = some sI) (v : Int32) : (wl w μ).set k (w_ad w k, .inr (ci, (fl.mapIdx (fv1 w μ k)).set i (.int v))) = wl w (up μ k i v) := by
  refine wl_set ?_ (fun j _ hj => ?_)
  · rw [ce_O _ h]
    congr 2
    apply List.ext_getElem?
    intro j
    by_cases hj : j = i
    · subst hj
      rw [List.getElem?_mapIdx, hf, List.getElem?_set_self (by rw [List.length_mapIdx]; exact (List.getElem?_eq_some_iff.mp hf).1)]
      simp only [Option.map_some, fv1, up_s]
    · rw [List.getElem?_set_ne (fun q => hj q.symm), List.getElem?_mapIdx, List.getElem?_mapIdx]
      congr 1
      funext f
      match f with
      | .inl _ => simp only [fv1]; rw [up_i _ _ _ hj]
      | .inr (.inl c) => rfl
      | .inr (.inr _) => rfl
  · unfold ce; exact ceS_congr (up_n _ _ _ hj) rfl _
def noL (s : Sh) : Bool := match s with
  | .inr (.inr (_, fl)) => fl.all (fun f => match f with | .inr (.inr _) => false | _ => true)
  | _ => true
theorem ceS_noL {w : WC} {μ : Me} {k : Nat} (v : Int64) (s : Sh) (h : noL s = true) : ceS w (ul μ v) k s = ceS w μ k s := by
  match s with
  | .inl (.inl n) => rfl
  | .inl (.inr n) => rfl
  | .inr (.inl (j, n, t)) => rfl
  | .inr (.inr (ci, fl)) =>
    simp only [ceS]
    congr 2
    apply List.ext_getElem?
    intro j
    rw [List.getElem?_mapIdx, List.getElem?_mapIdx]
    cases hf : fl[j]? with
    | none => rfl
    | some f =>
      have h1 := List.all_eq_true.mp h f (List.mem_of_getElem? hf)
      match f, h1 with
      | .inl _, _ => rfl
      | .inr (.inl c), _ => rfl
      | .inr (.inr _), h1 => simp at h1
theorem wl_ul_O {w : WC} {μ : Me} {k ci i : Nat} {fl : List (Unit ⊕ (Nat ⊕ Unit))} (h : w_sh w k = shO ci fl) (hf : fl[i]? = some sL) (hone : ∀ j, j < fl.length → j ≠ i → fl[j]? ≠ some sL) (ho : ∀ j, j < w_N w → j ≠ k → noL (w_sh w j) = true) (v : Int64) : (wl w μ).set k (w_ad w k, .inr (ci, (fl.mapIdx (fv1 w μ k)).set i (.long v))) = wl w (ul μ v) := by
  refine wl_set ?_ (fun j hj hk => ?_)
  · rw [ce_O _ h]
    congr 2
    apply List.ext_getElem?
    intro j
    by_cases hj : j = i
    · subst hj
      rw [List.getElem?_mapIdx, hf, List.getElem?_set_self (by rw [List.length_mapIdx]; exact (List.getElem?_eq_some_iff.mp hf).1)]
      rfl
    · rw [List.getElem?_set_ne (fun q => hj q.symm), List.getElem?_mapIdx, List.getElem?_mapIdx]
      cases hq : fl[j]? with
      | none => rfl
      | some f =>
        match f, hq with
        | .inl _, _ => rfl
        | .inr (.inl c), _ => rfl
        | .inr (.inr _), hq => exact absurd hq (hone j (List.getElem?_eq_some_iff.mp hq).1 hj)
  · unfold ce; exact ceS_noL v _ (ho j hj hk)
/-! the judgement V: the machine at a place of a method, over a world -/
abbrev Cy : Type := Program × Launch × Env × Room × State × MethodId × Array Value × List Frame × Method × Code × (State → Prop)
abbrev y_p (x : Cy) : Program := x.1
abbrev y_l (x : Cy) : Launch := x.2.1
abbrev y_e (x : Cy) : Env := x.2.2.1
abbrev y_R (x : Cy) : Room := x.2.2.2.1
abbrev y_s (x : Cy) : State := x.2.2.2.2.1
abbrev y_m (x : Cy) : MethodId := x.2.2.2.2.2.1
abbrev y_a (x : Cy) : Array Value := x.2.2.2.2.2.2.1
abbrev y_b (x : Cy) : List Frame := x.2.2.2.2.2.2.2.1
abbrev y_t (x : Cy) : Method := x.2.2.2.2.2.2.2.2.1
abbrev y_c (x : Cy) : Code := x.2.2.2.2.2.2.2.2.2.1
abbrev y_Q (x : Cy) : State → Prop := x.2.2.2.2.2.2.2.2.2.2
def V (w : WC) (x : Cy) (nL : Nat) (μ : Me) (pc : Nat) (lv : List (Nat × Value)) (st : List Value) : Prop :=
  ∀ (H : Heap) (locs : List Loc) (ls : Array Slot), WP w μ H → va_S (AA w) (y_s x).heap H locs → lv_has ls nL lv → W (y_p x) (y_l x) (y_e x) (y_R x) (y_s x) (y_m x) (y_a x) (y_b x) (y_t x) (y_c x) H locs 0 0 (y_Q x) (F0 (y_m x) pc ls st)
def Cx (w : WC) (x : Cy) (cc : ByteArray) (nL : Nat) (own : String) (rt : Option FieldType) (rm : Room) : Prop :=
  (y_p x).tables.exec = Jvm.exec ∧ (y_c x).code = cc ∧ (y_c x).maxLocals = nL ∧ (y_s x).vm.findClass own = some (y_m x).cls ∧ (∀ v ∈ wg_ok, v.before (y_a x) (y_s x) = true) ∧ (y_t x).sig.returnType = rt ∧ (y_t x).locks = false ∧ va_K (w_D w) vwCl (tys w) (y_s x) ∧ Okw w ∧ w_X w (y_s x) ∧ y_R x = rm
def lgt (lv : List (Nat × Value)) (i : Nat) : Option Value := match lv with
  | [] => none
  | (j, v) :: r => if j = i then some v else lgt r i
theorem lgt_has {ls : Array Slot} {nL i : Nat} {v : Value} : ∀ {lv : List (Nat × Value)}, lv_has ls nL lv → lgt lv i = some v → ls[i]? = some (.val v)
  | [], _, h => by simp [lgt] at h
  | (j, u) :: r, hl, h => by
    unfold lgt at h
    by_cases hj : j = i
    · rw [if_pos hj] at h
      cases h
      subst hj
      exact hl.2.2 (j, v) List.mem_cons_self
    · rw [if_neg hj] at h
      exact lgt_has ⟨hl.1, hl.2.1, fun q hq => hl.2.2 q (List.mem_cons_of_mem _ hq)⟩ h
def lst (lv : List (Nat × Value)) (i : Nat) (v : Value) : List (Nat × Value) := (i, v) :: lv.filter (fun q => !(q.1 == i) && !(q.1 + 1 == i && q.2.category == 2))
def lst2 (lv : List (Nat × Value)) (i : Nat) (v : Value) : List (Nat × Value) := (i, v) :: lv.filter (fun q => !(q.1 == i) && (!(q.1 == i + 1) && !(q.1 + 1 == i && q.2.category == 2)))
section VROWS
variable {w : WC} {x : Cy} {nL : Nat} {μ : Me} {pc : Nat} {lv : List (Nat × Value)} {st : List Value} {cc : ByteArray} {own : String} {rt : Option FieldType} {rm : Room}
/-- fewer locals -/
theorem V.less {lv' : List (Nat × Value)} (h : ∀ q ∈ lv', q ∈ lv) (k : V w x nL μ pc lv' st) : V w x nL μ pc lv st := fun H locs ls hP hS hl => k H locs ls hP hS ⟨hl.1, hl.2.1, fun q hq => hl.2.2 q (h q hq)⟩
theorem V.sub {lv' : List (Nat × Value)} (ks : List Nat) (h : lv_pick lv ks = lv') (k : V w x nL μ pc lv' st) : V w x nL μ pc lv st := fun H locs ls hP hS hl => k H locs ls hP hS (lv_sub hl ks h)
theorem V.get {lv' : List (Nat × Value)} (h : lv'.all (fun q => (lgt lv q.1).isSome) = true) (h2 : ∀ q ∈ lv', lgt lv q.1 = some q.2) (k : V w x nL μ pc lv' st) : V w x nL μ pc lv st := fun H locs ls hP hS hl => k H locs ls hP hS ⟨hl.1, hl.2.1, fun q hq => lgt_has hl (h2 q hq)⟩
theorem v_topi {a : Int32} (k : ∀ b : Int32, b = a → V w x nL μ pc lv (.int b :: st)) : V w x nL μ pc lv (.int a :: st) := k a rfl
theorem v_topl {a : Int64} (k : ∀ b : Int64, b = a → V w x nL μ pc lv (.long b :: st)) : V w x nL μ pc lv (.long a :: st) := k a rfl
theorem v_eqi {a b : Int32} (h : a = b) (k : V w x nL μ pc lv (.int b :: st)) : V w x nL μ pc lv (.int a :: st) := h ▸ k
theorem v_mem {μ' : Me} (h : μ = μ') (k : V w x nL μ' pc lv st) : V w x nL μ pc lv st := h ▸ k
theorem v_iconst (C : Cx w x cc nL own rt rm) {n : Int} {v : Int32} {q : Nat} (hd : decode cc pc = .ok (.iconst n, 1)) (hv : Int32.ofInt n = v) (hq : pc + 1 = q) (k : V w x nL μ q lv (.int v :: st)) : V w x nL μ pc lv st := by
  subst hq
  exact fun H locs ls hP hS hl => lv_iconst C.1 C.2.1 hd hv (k H locs ls hP hS hl)
theorem v_bipush (C : Cx w x cc nL own rt rm) {n : Int} {v : Int32} {q : Nat} (hd : decode cc pc = .ok (.bipush n, 2)) (hv : (Int8.ofInt n).toInt32 = v) (hq : pc + 2 = q) (k : V w x nL μ q lv (.int v :: st)) : V w x nL μ pc lv st := by
  subst hq
  exact fun H locs ls hP hS hl => lv_bipush C.1 C.2.1 hd hv (k H locs ls hP hS hl)
theorem v_sipush (C : Cx w x cc nL own rt rm) {n : Int} {v : Int32} {q : Nat} (hd : decode cc pc = .ok (.sipush n, 3)) (hv : (Int16.ofInt n).toInt32 = v) (hq : pc + 3 = q) (k : V w x nL μ q lv (.int v :: st)) : V w x nL μ pc lv st := by
  subst hq
  exact fun H locs ls hP hS hl => lv_sipush C.1 C.2.1 hd hv (k H locs ls hP hS hl)
theorem v_lconst (C : Cx w x cc nL own rt rm) {n : Fin 2} {v : Int64} {q : Nat} (hd : decode cc pc = .ok (.lconst n, 1)) (hv : Int64.ofNat (n : Nat) = v) (hq : pc + 1 = q) (k : V w x nL μ q lv (.long v :: st)) : V w x nL μ pc lv st := by
  subst hq
  exact fun H locs ls hP hS hl => lv_lconst C.1 C.2.1 hd hv (k H locs ls hP hS hl)
theorem v_iload_n (C : Cx w x cc nL own rt rm) {n : Fin 4} {v : Int32} {q : Nat} (hd : decode cc pc = .ok (.iload_n n, 1)) (hv : lgt lv n = some (.int v)) (hq : pc + 1 = q) (k : V w x nL μ q lv (.int v :: st)) : V w x nL μ pc lv st := by
  subst hq
  exact fun H locs ls hP hS hl => lv_iload_n C.1 C.2.1 hd rfl (lgt_has hl hv) (k H locs ls hP hS hl)
theorem v_iload (C : Cx w x cc nL own rt rm) {n : Nat} {v : Int32} {q : Nat} (hd : decode cc pc = .ok (.iload n, 2)) (hv : lgt lv n = some (.int v)) (hq : pc + 2 = q) (k : V w x nL μ q lv (.int v :: st)) : V w x nL μ pc lv st := by
  subst hq
  exact fun H locs ls hP hS hl => lv_iload C.1 C.2.1 hd (lgt_has hl hv) (k H locs ls hP hS hl)
theorem v_lload_n (C : Cx w x cc nL own rt rm) {n : Fin 4} {v : Int64} {q : Nat} (hd : decode cc pc = .ok (.lload_n n, 1)) (hv : lgt lv n = some (.long v)) (hq : pc + 1 = q) (k : V w x nL μ q lv (.long v :: st)) : V w x nL μ pc lv st := by
  subst hq
  exact fun H locs ls hP hS hl => lv_lload_n C.1 C.2.1 hd rfl (lgt_has hl hv) (k H locs ls hP hS hl)
theorem v_lload (C : Cx w x cc nL own rt rm) {n : Nat} {v : Int64} {q : Nat} (hd : decode cc pc = .ok (.lload n, 2)) (hv : lgt lv n = some (.long v)) (hq : pc + 2 = q) (k : V w x nL μ q lv (.long v :: st)) : V w x nL μ pc lv st := by
  subst hq
  exact fun H locs ls hP hS hl => lv_lload C.1 C.2.1 hd (lgt_has hl hv) (k H locs ls hP hS hl)
theorem v_aload_n (C : Cx w x cc nL own rt rm) {n : Fin 4} {v : Nat} {q : Nat} (hd : decode cc pc = .ok (.aload_n n, 1)) (hv : lgt lv n = some (.ref v)) (hq : pc + 1 = q) (k : V w x nL μ q lv (.ref v :: st)) : V w x nL μ pc lv st := by
  subst hq
  exact fun H locs ls hP hS hl => lv_aload_n C.1 C.2.1 hd rfl (lgt_has hl hv) (k H locs ls hP hS hl)
theorem v_aload (C : Cx w x cc nL own rt rm) {n : Nat} {v : Nat} {q : Nat} (hd : decode cc pc = .ok (.aload n, 2)) (hv : lgt lv n = some (.ref v)) (hq : pc + 2 = q) (k : V w x nL μ q lv (.ref v :: st)) : V w x nL μ pc lv st := by
  subst hq
  exact fun H locs ls hP hS hl => lv_aload C.1 C.2.1 hd (lgt_has hl hv) (k H locs ls hP hS hl)
theorem v_istore_n (C : Cx w x cc nL own rt rm) {n : Fin 4} {v : Int32} {q : Nat} (hd : decode cc pc = .ok (.istore_n n, 1)) (hn : (n : Nat) < nL) (hq : pc + 1 = q) (k : V w x nL μ q (lst lv n (.int v)) st) : V w x nL μ pc lv (.int v :: st) := by
  subst hq
  exact fun H locs ls hP hS hl => lv_istore_n C.1 C.2.1 hd rfl hl hn rfl (fun ls hl => k H locs ls hP hS hl)
theorem v_istore (C : Cx w x cc nL own rt rm) {n : Nat} {v : Int32} {q : Nat} (hd : decode cc pc = .ok (.istore n, 2)) (hn : n < nL) (hq : pc + 2 = q) (k : V w x nL μ q (lst lv n (.int v)) st) : V w x nL μ pc lv (.int v :: st) := by
  subst hq
  exact fun H locs ls hP hS hl => lv_istore C.1 C.2.1 hd hl hn rfl (fun ls hl => k H locs ls hP hS hl)
theorem v_lstore_n (C : Cx w x cc nL own rt rm) {n : Fin 4} {v : Int64} {q : Nat} (hd : decode cc pc = .ok (.lstore_n n, 1)) (hn : (n : Nat) + 1 < nL) (hq : pc + 1 = q) (k : V w x nL μ q (lst2 lv n (.long v)) st) : V w x nL μ pc lv (.long v :: st) := by
  subst hq
  exact fun H locs ls hP hS hl => lv_lstore_n C.1 C.2.1 hd rfl hl hn rfl (fun ls hl => k H locs ls hP hS hl)
theorem v_lstore (C : Cx w x cc nL own rt rm) {n : Nat} {v : Int64} {q : Nat} (hd : decode cc pc = .ok (.lstore n, 2)) (hn : n + 1 < nL) (hq : pc + 2 = q) (k : V w x nL μ q (lst2 lv n (.long v)) st) : V w x nL μ pc lv (.long v :: st) := by
  subst hq
  exact fun H locs ls hP hS hl => lv_lstore C.1 C.2.1 hd hl hn rfl (fun ls hl => k H locs ls hP hS hl)
theorem v_astore_n (C : Cx w x cc nL own rt rm) {n : Fin 4} {v : Nat} {q : Nat} (hd : decode cc pc = .ok (.astore_n n, 1)) (hn : (n : Nat) < nL) (hq : pc + 1 = q) (k : V w x nL μ q (lst lv n (.ref v)) st) : V w x nL μ pc lv (.ref v :: st) := by
  subst hq
  exact fun H locs ls hP hS hl => lv_astore_n C.1 C.2.1 hd rfl hl hn rfl (fun ls hl => k H locs ls hP hS hl)
theorem v_astore (C : Cx w x cc nL own rt rm) {n : Nat} {v : Nat} {q : Nat} (hd : decode cc pc = .ok (.astore n, 2)) (hn : n < nL) (hq : pc + 2 = q) (k : V w x nL μ q (lst lv n (.ref v)) st) : V w x nL μ pc lv (.ref v :: st) := by
  subst hq
  exact fun H locs ls hP hS hl => lv_astore C.1 C.2.1 hd hl hn rfl (fun ls hl => k H locs ls hP hS hl)
theorem v_iadd (C : Cx w x cc nL own rt rm) {a b : Int32} {q : Nat} (hd : decode cc pc = .ok (.iadd, 1))  (hq : pc + 1 = q) (k : V w x nL μ q lv (.int (a + b) :: st)) : V w x nL μ pc lv (.int b :: .int a :: st) := by
  subst hq
  exact fun H locs ls hP hS hl => lv_iadd C.1 C.2.1 hd (k H locs ls hP hS hl)
theorem v_isub (C : Cx w x cc nL own rt rm) {a b : Int32} {q : Nat} (hd : decode cc pc = .ok (.isub, 1))  (hq : pc + 1 = q) (k : V w x nL μ q lv (.int (a - b) :: st)) : V w x nL μ pc lv (.int b :: .int a :: st) := by
  subst hq
  exact fun H locs ls hP hS hl => lv_isub C.1 C.2.1 hd (k H locs ls hP hS hl)
theorem v_imul (C : Cx w x cc nL own rt rm) {a b : Int32} {q : Nat} (hd : decode cc pc = .ok (.imul, 1))  (hq : pc + 1 = q) (k : V w x nL μ q lv (.int (a * b) :: st)) : V w x nL μ pc lv (.int b :: .int a :: st) := by
  subst hq
  exact fun H locs ls hP hS hl => lv_imul C.1 C.2.1 hd (k H locs ls hP hS hl)
theorem v_iand (C : Cx w x cc nL own rt rm) {a b : Int32} {q : Nat} (hd : decode cc pc = .ok (.iand, 1))  (hq : pc + 1 = q) (k : V w x nL μ q lv (.int (a &&& b) :: st)) : V w x nL μ pc lv (.int b :: .int a :: st) := by
  subst hq
  exact fun H locs ls hP hS hl => lv_iand C.1 C.2.1 hd (k H locs ls hP hS hl)
theorem v_ior (C : Cx w x cc nL own rt rm) {a b : Int32} {q : Nat} (hd : decode cc pc = .ok (.ior, 1))  (hq : pc + 1 = q) (k : V w x nL μ q lv (.int (a ||| b) :: st)) : V w x nL μ pc lv (.int b :: .int a :: st) := by
  subst hq
  exact fun H locs ls hP hS hl => lv_ior C.1 C.2.1 hd (k H locs ls hP hS hl)
theorem v_ixor (C : Cx w x cc nL own rt rm) {a b : Int32} {q : Nat} (hd : decode cc pc = .ok (.ixor, 1))  (hq : pc + 1 = q) (k : V w x nL μ q lv (.int (a ^^^ b) :: st)) : V w x nL μ pc lv (.int b :: .int a :: st) := by
  subst hq
  exact fun H locs ls hP hS hl => lv_ixor C.1 C.2.1 hd (k H locs ls hP hS hl)
theorem v_idiv (C : Cx w x cc nL own rt rm) {a b : Int32} {q : Nat} (hd : decode cc pc = .ok (.idiv, 1)) (hne : ¬ b = 0) (hq : pc + 1 = q) (k : V w x nL μ q lv (.int (a / b) :: st)) : V w x nL μ pc lv (.int b :: .int a :: st) := by
  subst hq
  exact fun H locs ls hP hS hl => lv_idiv C.1 C.2.1 hd hne (k H locs ls hP hS hl)
theorem v_irem (C : Cx w x cc nL own rt rm) {a b : Int32} {q : Nat} (hd : decode cc pc = .ok (.irem, 1)) (hne : ¬ b = 0) (hq : pc + 1 = q) (k : V w x nL μ q lv (.int (a - a / b * b) :: st)) : V w x nL μ pc lv (.int b :: .int a :: st) := by
  subst hq
  exact fun H locs ls hP hS hl => lv_irem C.1 C.2.1 hd hne (k H locs ls hP hS hl)
theorem v_ineg (C : Cx w x cc nL own rt rm) {a : Int32} {q : Nat} (hd : decode cc pc = .ok (.ineg, 1))  (hq : pc + 1 = q) (k : V w x nL μ q lv (.int (-a) :: st)) : V w x nL μ pc lv (.int a :: st) := by
  subst hq
  exact fun H locs ls hP hS hl => lv_ineg C.1 C.2.1 hd (k H locs ls hP hS hl)
theorem v_ishl (C : Cx w x cc nL own rt rm) {a b : Int32} {q : Nat} (hd : decode cc pc = .ok (.ishl, 1))  (hq : pc + 1 = q) (k : V w x nL μ q lv (.int (a <<< (b &&& 31)) :: st)) : V w x nL μ pc lv (.int b :: .int a :: st) := by
  subst hq
  exact fun H locs ls hP hS hl => lv_ishl C.1 C.2.1 hd (k H locs ls hP hS hl)
theorem v_ishr (C : Cx w x cc nL own rt rm) {a b : Int32} {q : Nat} (hd : decode cc pc = .ok (.ishr, 1))  (hq : pc + 1 = q) (k : V w x nL μ q lv (.int (a >>> (b &&& 31)) :: st)) : V w x nL μ pc lv (.int b :: .int a :: st) := by
  subst hq
  exact fun H locs ls hP hS hl => lv_ishr C.1 C.2.1 hd (k H locs ls hP hS hl)
theorem v_iushr (C : Cx w x cc nL own rt rm) {a b : Int32} {q : Nat} (hd : decode cc pc = .ok (.iushr, 1))  (hq : pc + 1 = q) (k : V w x nL μ q lv (.int ((a.toUInt32 >>> (b.toUInt32 &&& Int32.toUInt32 31)).toInt32) :: st)) : V w x nL μ pc lv (.int b :: .int a :: st) := by
  subst hq
  exact fun H locs ls hP hS hl => lv_iushr C.1 C.2.1 hd rfl (k H locs ls hP hS hl)
theorem v_ladd (C : Cx w x cc nL own rt rm) {a b : Int64} {q : Nat} (hd : decode cc pc = .ok (.ladd, 1))  (hq : pc + 1 = q) (k : V w x nL μ q lv (.long (a + b) :: st)) : V w x nL μ pc lv (.long b :: .long a :: st) := by
  subst hq
  exact fun H locs ls hP hS hl => lv_ladd C.1 C.2.1 hd (k H locs ls hP hS hl)
theorem v_lsub (C : Cx w x cc nL own rt rm) {a b : Int64} {q : Nat} (hd : decode cc pc = .ok (.lsub, 1))  (hq : pc + 1 = q) (k : V w x nL μ q lv (.long (a - b) :: st)) : V w x nL μ pc lv (.long b :: .long a :: st) := by
  subst hq
  exact fun H locs ls hP hS hl => lv_lsub C.1 C.2.1 hd (k H locs ls hP hS hl)
theorem v_lmul (C : Cx w x cc nL own rt rm) {a b : Int64} {q : Nat} (hd : decode cc pc = .ok (.lmul, 1))  (hq : pc + 1 = q) (k : V w x nL μ q lv (.long (a * b) :: st)) : V w x nL μ pc lv (.long b :: .long a :: st) := by
  subst hq
  exact fun H locs ls hP hS hl => lv_lmul C.1 C.2.1 hd (k H locs ls hP hS hl)
theorem v_i2l (C : Cx w x cc nL own rt rm) {a : Int32} {q : Nat} (hd : decode cc pc = .ok (.i2l, 1))  (hq : pc + 1 = q) (k : V w x nL μ q lv (.long a.toInt64 :: st)) : V w x nL μ pc lv (.int a :: st) := by
  subst hq
  exact fun H locs ls hP hS hl => lv_i2l C.1 C.2.1 hd rfl (k H locs ls hP hS hl)
theorem v_l2i (C : Cx w x cc nL own rt rm) {a : Int64} {q : Nat} (hd : decode cc pc = .ok (.l2i, 1))  (hq : pc + 1 = q) (k : V w x nL μ q lv (.int a.toInt32 :: st)) : V w x nL μ pc lv (.long a :: st) := by
  subst hq
  exact fun H locs ls hP hS hl => lv_l2i C.1 C.2.1 hd rfl (k H locs ls hP hS hl)
theorem v_i2b (C : Cx w x cc nL own rt rm) {a : Int32} {q : Nat} (hd : decode cc pc = .ok (.i2b, 1))  (hq : pc + 1 = q) (k : V w x nL μ q lv (.int a.toInt8.toInt32 :: st)) : V w x nL μ pc lv (.int a :: st) := by
  subst hq
  exact fun H locs ls hP hS hl => lv_i2b C.1 C.2.1 hd rfl (k H locs ls hP hS hl)
theorem v_i2s (C : Cx w x cc nL own rt rm) {a : Int32} {q : Nat} (hd : decode cc pc = .ok (.i2s, 1))  (hq : pc + 1 = q) (k : V w x nL μ q lv (.int a.toInt16.toInt32 :: st)) : V w x nL μ pc lv (.int a :: st) := by
  subst hq
  exact fun H locs ls hP hS hl => lv_i2s C.1 C.2.1 hd rfl (k H locs ls hP hS hl)
theorem v_i2c (C : Cx w x cc nL own rt rm) {a : Int32} {q : Nat} (hd : decode cc pc = .ok (.i2c, 1))  (hq : pc + 1 = q) (k : V w x nL μ q lv (.int (a.toUInt32 % 65536).toInt32 :: st)) : V w x nL μ pc lv (.int a :: st) := by
  subst hq
  exact fun H locs ls hP hS hl => lv_i2c C.1 C.2.1 hd rfl (k H locs ls hP hS hl)
theorem v_lcmp (C : Cx w x cc nL own rt rm) {a b : Int64} {q : Nat} (hd : decode cc pc = .ok (.lcmp, 1))  (hq : pc + 1 = q) (k : V w x nL μ q lv (.int (lg_cmp a b) :: st)) : V w x nL μ pc lv (.long b :: .long a :: st) := by
  subst hq
  exact fun H locs ls hP hS hl => W.lcmp C.1 C.2.1 hd (k H locs ls hP hS hl)
theorem v_dup (C : Cx w x cc nL own rt rm) {v : Value} {q : Nat} (hd : decode cc pc = .ok (.dup, 1)) (hv : v.category = 1) (hq : pc + 1 = q) (k : V w x nL μ q lv (v :: v :: st)) : V w x nL μ pc lv (v :: st) := by
  subst hq
  exact fun H locs ls hP hS hl => lv_dup C.1 C.2.1 hd hv (k H locs ls hP hS hl)
theorem v_pop (C : Cx w x cc nL own rt rm) {v : Value} {q : Nat} (hd : decode cc pc = .ok (.pop, 1)) (hv : v.category = 1) (hq : pc + 1 = q) (k : V w x nL μ q lv st) : V w x nL μ pc lv (v :: st) := by
  subst hq
  exact fun H locs ls hP hS hl => lv_pop C.1 C.2.1 hd hv (k H locs ls hP hS hl)
theorem v_dup2 (C : Cx w x cc nL own rt rm) {v u : Value} {q : Nat} (hd : decode cc pc = .ok (.dup2, 1)) (hv : v.category = 1) (hu : u.category = 1) (hq : pc + 1 = q) (k : V w x nL μ q lv (v :: u :: v :: u :: st)) : V w x nL μ pc lv (v :: u :: st) := by
  subst hq
  exact fun H locs ls hP hS hl => lv_dup2_11 C.1 C.2.1 hd hv hu (k H locs ls hP hS hl)
theorem v_ldc (C : Cx w x cc nL own rt rm) {n : Nat} {v : Int32} {q : Nat} (hd : decode cc pc = .ok (.ldc n, 2)) (hv : Cond.constant own n v ∈ wg_ok) (hq : pc + 2 = q) (k : V w x nL μ q lv (.int v :: st)) : V w x nL μ pc lv st := by
  subst hq
  exact fun H locs ls hP hS hl => lv_ldc C.1 C.2.1 C.2.2.2.1 (C.2.2.2.2.1 _ hv) hd (k H locs ls hP hS hl)
theorem v_ldc2 (C : Cx w x cc nL own rt rm) {n : Nat} {v : Int64} {q : Nat} (hd : decode cc pc = .ok (.ldc2_w n, 3)) (hv : Cond.constantLong own n v ∈ wg_ok) (hq : pc + 3 = q) (k : V w x nL μ q lv (.long v :: st)) : V w x nL μ pc lv st := by
  subst hq
  exact fun H locs ls hP hS hl => lv_ldc2 C.1 C.2.1 C.2.2.2.1 (C.2.2.2.2.1 _ hv) hd (k H locs ls hP hS hl)
theorem v_iinc (C : Cx w x cc nL own rt rm) {i : Nat} {n : Int} {v : Int32} {q : Nat} (hd : decode cc pc = .ok (.iinc i n, 3)) (hv : lgt lv i = some (.int v)) (hn : i < nL) (hq : pc + 3 = q) (k : V w x nL μ q (lst lv i (.int (v + Int32.ofInt n))) st) : V w x nL μ pc lv st := by
  subst hq
  intro H locs ls hP hS hl
  have h1 : lv_has ls nL ((i, .int v) :: lv) := ⟨hl.1, hl.2.1, fun q hq => by
    rcases List.mem_cons.mp hq with e | h
    · subst e; exact lgt_has hl hv
    · exact hl.2.2 q h⟩
  refine lv_iinc C.1 C.2.1 hd h1 (k := 0) rfl rfl hn rfl (fun ls hl => k H locs ls hP hS ⟨hl.1, hl.2.1, fun q hq => hl.2.2 q ?_⟩)
  rcases List.mem_cons.mp hq with e | h
  · subst e; exact List.mem_cons_self
  · refine List.mem_cons_of_mem _ ?_
    have := List.mem_filter.mp h
    exact List.mem_filter.mpr ⟨List.mem_cons_of_mem _ this.1, this.2⟩
theorem v_goto (C : Cx w x cc nL own rt rm) {off : Int} (tgt : Nat) (hd : decode cc pc = .ok (.goto off, 3)) (ht : (pc : Int) + off = (tgt : Int)) (k : V w x nL μ tgt lv st) : V w x nL μ pc lv st := fun H locs ls hP hS hl => lv_goto C.1 C.2.1 hd ht (k H locs ls hP hS hl)

theorem v_if_eq (C : Cx w x cc nL own rt rm) {a : Int32} {off : Int} (tgt q : Nat) (hd : decode cc pc = .ok (.ifCond .eq off, 3)) (ht : (pc : Int) + off = (tgt : Int)) (hq : pc + 3 = q) (kt : a = 0 → V w x nL μ tgt lv st) (kf : ¬ a = 0 → V w x nL μ q lv st) : V w x nL μ pc lv (.int a :: st) := by
  subst hq
  exact fun H locs ls hP hS hl => lv_if_eq C.1 C.2.1 hd ht (fun h => kt h H locs ls hP hS hl) (fun h => kf h H locs ls hP hS hl)
theorem v_icmp_eq (C : Cx w x cc nL own rt rm) {a b : Int32} {off : Int} (tgt q : Nat) (hd : decode cc pc = .ok (.if_icmp .eq off, 3)) (ht : (pc : Int) + off = (tgt : Int)) (hq : pc + 3 = q) (kt : a = b → V w x nL μ tgt lv st) (kf : ¬ a = b → V w x nL μ q lv st) : V w x nL μ pc lv (.int b :: .int a :: st) := by
  subst hq
  exact fun H locs ls hP hS hl => lv_icmp_eq C.1 C.2.1 hd ht (fun h => kt h H locs ls hP hS hl) (fun h => kf h H locs ls hP hS hl)
theorem v_if_ne (C : Cx w x cc nL own rt rm) {a : Int32} {off : Int} (tgt q : Nat) (hd : decode cc pc = .ok (.ifCond .ne off, 3)) (ht : (pc : Int) + off = (tgt : Int)) (hq : pc + 3 = q) (kt : ¬ a = 0 → V w x nL μ tgt lv st) (kf : a = 0 → V w x nL μ q lv st) : V w x nL μ pc lv (.int a :: st) := by
  subst hq
  exact fun H locs ls hP hS hl => lv_if_ne C.1 C.2.1 hd ht (fun h => kt h H locs ls hP hS hl) (fun h => kf h H locs ls hP hS hl)
theorem v_icmp_ne (C : Cx w x cc nL own rt rm) {a b : Int32} {off : Int} (tgt q : Nat) (hd : decode cc pc = .ok (.if_icmp .ne off, 3)) (ht : (pc : Int) + off = (tgt : Int)) (hq : pc + 3 = q) (kt : ¬ a = b → V w x nL μ tgt lv st) (kf : a = b → V w x nL μ q lv st) : V w x nL μ pc lv (.int b :: .int a :: st) := by
  subst hq
  exact fun H locs ls hP hS hl => lv_icmp_ne C.1 C.2.1 hd ht (fun h => kt h H locs ls hP hS hl) (fun h => kf h H locs ls hP hS hl)
theorem v_if_lt (C : Cx w x cc nL own rt rm) {a : Int32} {off : Int} (tgt q : Nat) (hd : decode cc pc = .ok (.ifCond .lt off, 3)) (ht : (pc : Int) + off = (tgt : Int)) (hq : pc + 3 = q) (kt : a < 0 → V w x nL μ tgt lv st) (kf : ¬ a < 0 → V w x nL μ q lv st) : V w x nL μ pc lv (.int a :: st) := by
  subst hq
  exact fun H locs ls hP hS hl => lv_if_lt C.1 C.2.1 hd ht (fun h => kt h H locs ls hP hS hl) (fun h => kf h H locs ls hP hS hl)
theorem v_icmp_lt (C : Cx w x cc nL own rt rm) {a b : Int32} {off : Int} (tgt q : Nat) (hd : decode cc pc = .ok (.if_icmp .lt off, 3)) (ht : (pc : Int) + off = (tgt : Int)) (hq : pc + 3 = q) (kt : a < b → V w x nL μ tgt lv st) (kf : ¬ a < b → V w x nL μ q lv st) : V w x nL μ pc lv (.int b :: .int a :: st) := by
  subst hq
  exact fun H locs ls hP hS hl => lv_icmp_lt C.1 C.2.1 hd ht (fun h => kt h H locs ls hP hS hl) (fun h => kf h H locs ls hP hS hl)
theorem v_if_ge (C : Cx w x cc nL own rt rm) {a : Int32} {off : Int} (tgt q : Nat) (hd : decode cc pc = .ok (.ifCond .ge off, 3)) (ht : (pc : Int) + off = (tgt : Int)) (hq : pc + 3 = q) (kt : 0 ≤ a → V w x nL μ tgt lv st) (kf : ¬ 0 ≤ a → V w x nL μ q lv st) : V w x nL μ pc lv (.int a :: st) := by
  subst hq
  exact fun H locs ls hP hS hl => lv_if_ge C.1 C.2.1 hd ht (fun h => kt h H locs ls hP hS hl) (fun h => kf h H locs ls hP hS hl)
theorem v_icmp_ge (C : Cx w x cc nL own rt rm) {a b : Int32} {off : Int} (tgt q : Nat) (hd : decode cc pc = .ok (.if_icmp .ge off, 3)) (ht : (pc : Int) + off = (tgt : Int)) (hq : pc + 3 = q) (kt : b ≤ a → V w x nL μ tgt lv st) (kf : ¬ b ≤ a → V w x nL μ q lv st) : V w x nL μ pc lv (.int b :: .int a :: st) := by
  subst hq
  exact fun H locs ls hP hS hl => lv_icmp_ge C.1 C.2.1 hd ht (fun h => kt h H locs ls hP hS hl) (fun h => kf h H locs ls hP hS hl)
theorem v_if_gt (C : Cx w x cc nL own rt rm) {a : Int32} {off : Int} (tgt q : Nat) (hd : decode cc pc = .ok (.ifCond .gt off, 3)) (ht : (pc : Int) + off = (tgt : Int)) (hq : pc + 3 = q) (kt : 0 < a → V w x nL μ tgt lv st) (kf : ¬ 0 < a → V w x nL μ q lv st) : V w x nL μ pc lv (.int a :: st) := by
  subst hq
  exact fun H locs ls hP hS hl => lv_if_gt C.1 C.2.1 hd ht (fun h => kt h H locs ls hP hS hl) (fun h => kf h H locs ls hP hS hl)
theorem v_icmp_gt (C : Cx w x cc nL own rt rm) {a b : Int32} {off : Int} (tgt q : Nat) (hd : decode cc pc = .ok (.if_icmp .gt off, 3)) (ht : (pc : Int) + off = (tgt : Int)) (hq : pc + 3 = q) (kt : b < a → V w x nL μ tgt lv st) (kf : ¬ b < a → V w x nL μ q lv st) : V w x nL μ pc lv (.int b :: .int a :: st) := by
  subst hq
  exact fun H locs ls hP hS hl => lv_icmp_gt C.1 C.2.1 hd ht (fun h => kt h H locs ls hP hS hl) (fun h => kf h H locs ls hP hS hl)
theorem v_if_le (C : Cx w x cc nL own rt rm) {a : Int32} {off : Int} (tgt q : Nat) (hd : decode cc pc = .ok (.ifCond .le off, 3)) (ht : (pc : Int) + off = (tgt : Int)) (hq : pc + 3 = q) (kt : a ≤ 0 → V w x nL μ tgt lv st) (kf : ¬ a ≤ 0 → V w x nL μ q lv st) : V w x nL μ pc lv (.int a :: st) := by
  subst hq
  exact fun H locs ls hP hS hl => lv_if_le C.1 C.2.1 hd ht (fun h => kt h H locs ls hP hS hl) (fun h => kf h H locs ls hP hS hl)
theorem v_icmp_le (C : Cx w x cc nL own rt rm) {a b : Int32} {off : Int} (tgt q : Nat) (hd : decode cc pc = .ok (.if_icmp .le off, 3)) (ht : (pc : Int) + off = (tgt : Int)) (hq : pc + 3 = q) (kt : a ≤ b → V w x nL μ tgt lv st) (kf : ¬ a ≤ b → V w x nL μ q lv st) : V w x nL μ pc lv (.int b :: .int a :: st) := by
  subst hq
  exact fun H locs ls hP hS hl => lv_icmp_le C.1 C.2.1 hd ht (fun h => kt h H locs ls hP hS hl) (fun h => kf h H locs ls hP hS hl)
theorem v_tableOut (C : Cx w x cc nL own rt rm) {dflt lo hi : Int} {offs : Array Int} {len : Nat} {a : Int32} (tgt : Nat) (hd : decode cc pc = .ok (.tableswitch dflt lo hi offs, len)) (h : a.toInt < lo ∨ hi < a.toInt) (ht : (pc : Int) + dflt = (tgt : Int)) (k : V w x nL μ tgt lv st) : V w x nL μ pc lv (.int a :: st) := fun H locs ls hP hS hl => lv_tableOut C.1 C.2.1 hd h ht (k H locs ls hP hS hl)
theorem v_tableIn (C : Cx w x cc nL own rt rm) {dflt lo hi : Int} {offs : Array Int} {len : Nat} {a b : Int32} {off : Int} (tgt : Nat) (hd : decode cc pc = .ok (.tableswitch dflt lo hi offs, len)) (e : a = b) (h1 : ¬ b.toInt < lo) (h2 : ¬ hi < b.toInt) (ho : offs[(b.toInt - lo).toNat]? = some off) (ht : (pc : Int) + off = (tgt : Int)) (k : V w x nL μ tgt lv st) : V w x nL μ pc lv (.int a :: st) := by
  subst e
  exact fun H locs ls hP hS hl => lv_tableIn C.1 C.2.1 hd h1 h2 ho ht (k H locs ls hP hS hl)
theorem v_lookup (C : Cx w x cc nL own rt rm) {dflt : Int} {ps : Array (Int × Int)} {len : Nat} {a : Int32} {off : Int} (tgt : Nat) (hd : decode cc pc = .ok (.lookupswitch dflt ps, len)) (hp : (ps.toList.zip (ps.toList.drop 1)).all (fun (a, next) => a.1 < next.1) = true) (ho : Op.lookupswitch.offset ps.toList dflt a.toInt = off) (ht : (pc : Int) + off = (tgt : Int)) (k : V w x nL μ tgt lv st) : V w x nL μ pc lv (.int a :: st) := fun H locs ls hP hS hl => lv_lookup C.1 C.2.1 hd hp ho ht (k H locs ls hP hS hl)
/-- fields -/
theorem v_geti (C : Cx w x cc nL own rt rm) {ci n idx i kk : Nat} {q : Nat} {cn : String} {T : u_T} {fl : List (Unit ⊕ (Nat ⊕ Unit))} (hd : decode cc pc = .ok (.getfield idx, 3)) (hk : kk < w_N w) (hs : w_sh w kk = shO ci fl) (hf : fl[i]? = some sI) (hc : vwCl[ci]? = some (cn, T, n)) (hi : i < n) (hin : ∀ v ∈ u_ws cn T n, v ∈ wg_ok) (hl : Cond.fieldLink own idx (T i).1 (T i).2.1 (T i).2.2.1 ∈ wg_ok) (hq : pc + 3 = q) (k : V w x nL μ q lv (.int (μ.1 kk i) :: st)) : V w x nL μ pc lv (.ref (w_ad w kk) :: st) := by
  subst hq
  intro H locs ls hP hS hl0
  have h0 := wl_get (w := w) μ hk
  rw [ce_O μ hs] at h0
  refine va_get C.1 C.2.1 C.2.2.2.2.1 hin C.2.2.2.1 C.2.2.2.2.2.2.2.1 hP kk h0 hc i hi (C.2.2.2.2.1 _ hl) (fun _ h => h) (v := .int (μ.1 kk i)) ?_ hd (k H locs ls hP hS hl0)
  rw [List.getElem?_mapIdx, hf]; rfl
theorem v_getr (C : Cx w x cc nL own rt rm) {ci n idx i kk : Nat} {q t : Nat} {cn : String} {T : u_T} {fl : List (Unit ⊕ (Nat ⊕ Unit))} (hd : decode cc pc = .ok (.getfield idx, 3)) (hk : kk < w_N w) (hs : w_sh w kk = shO ci fl) (hf : fl[i]? = some (sR t)) (hc : vwCl[ci]? = some (cn, T, n)) (hi : i < n) (hin : ∀ v ∈ u_ws cn T n, v ∈ wg_ok) (hl : Cond.fieldLink own idx (T i).1 (T i).2.1 (T i).2.2.1 ∈ wg_ok) (hq : pc + 3 = q) (k : V w x nL μ q lv (.ref (w_ad w t) :: st)) : V w x nL μ pc lv (.ref (w_ad w kk) :: st) := by
  subst hq
  intro H locs ls hP hS hl0
  have h0 := wl_get (w := w) μ hk
  rw [ce_O μ hs] at h0
  refine va_get C.1 C.2.1 C.2.2.2.2.1 hin C.2.2.2.1 C.2.2.2.2.2.2.2.1 hP kk h0 hc i hi (C.2.2.2.2.1 _ hl) (fun _ h => h) (v := .ref (w_ad w t)) ?_ hd (k H locs ls hP hS hl0)
  rw [List.getElem?_mapIdx, hf]; rfl
theorem v_getl (C : Cx w x cc nL own rt rm) {ci n idx i kk : Nat} {q : Nat} {cn : String} {T : u_T} {fl : List (Unit ⊕ (Nat ⊕ Unit))} (hd : decode cc pc = .ok (.getfield idx, 3)) (hk : kk < w_N w) (hs : w_sh w kk = shO ci fl) (hf : fl[i]? = some sL) (hc : vwCl[ci]? = some (cn, T, n)) (hi : i < n) (hin : ∀ v ∈ u_ws cn T n, v ∈ wg_ok) (hl : Cond.fieldLink own idx (T i).1 (T i).2.1 (T i).2.2.1 ∈ wg_ok) (hq : pc + 3 = q) (k : V w x nL μ q lv (.long μ.2 :: st)) : V w x nL μ pc lv (.ref (w_ad w kk) :: st) := by
  subst hq
  intro H locs ls hP hS hl0
  have h0 := wl_get (w := w) μ hk
  rw [ce_O μ hs] at h0
  refine va_get C.1 C.2.1 C.2.2.2.2.1 hin C.2.2.2.1 C.2.2.2.2.2.2.2.1 hP kk h0 hc i hi (C.2.2.2.2.1 _ hl) (fun _ h => h) (v := .long μ.2) ?_ hd (k H locs ls hP hS hl0)
  rw [List.getElem?_mapIdx, hf]; rfl
theorem v_puti (C : Cx w x cc nL own rt rm) {ci n idx i kk : Nat} {q : Nat} {cn : String} {T : u_T} {ty0 : Nat → FieldType} {fl : List (Unit ⊕ (Nat ⊕ Unit))} {v : Int32} (hd : decode cc pc = .ok (.putfield idx, 3)) (hk : kk < w_N w) (hs : w_sh w kk = shO ci fl) (hf : fl[i]? = some sI) (hc : vwCl[ci]? = some (cn, T, n)) (hi : i < n) (hin : ∀ v ∈ u_ws cn T n, v ∈ wg_ok) (hty : ∀ k, k < n → parseFieldDescriptor (T k).2.2.1 = some (ty0 k)) (hnm : ∀ a, a < n → ∀ b, b < n → a ≠ b → (T a).2.1 ≠ (T b).2.1) (hl : Cond.fieldLink own idx (T i).1 (T i).2.1 (T i).2.2.1 ∈ wg_ok) (hfin : (T i).2.2.2 = false) (hn : narrow (ty0 i) (.int v) = .int v) (hfit : fits (ty0 i) (.int v) = true) (hq : pc + 3 = q) (k : V w x nL (up μ kk i v) q lv st) : V w x nL μ pc lv (.int v :: .ref (w_ad w kk) :: st) := by
  subst hq
  intro H locs ls hP hS hl0
  have h0 := wl_get (w := w) μ hk
  rw [ce_O μ hs] at h0
  have hlen : i < (fl.mapIdx (fv1 w μ kk)).length := by rw [List.length_mapIdx]; exact (List.getElem?_eq_some_iff.mp hf).1
  refine va_put C.1 C.2.1 C.2.2.2.2.1 hin ty0 hty hnm C.2.2.2.1 C.2.2.2.2.2.2.2.1 hP (wl_D C.2.2.2.2.2.2.2.2.1 μ) hS kk h0 hc i hi (C.2.2.2.2.1 _ hl) (fun _ h => h) hfin (hty i hi) hn hfit hlen hd (fun H1 locs1 hP1 _ hS1 => ?_)
  rw [wl_up_O hs hf] at hP1
  exact k H1 locs1 ls hP1 hS1 hl0
theorem v_putl (C : Cx w x cc nL own rt rm) {ci n idx i kk : Nat} {q : Nat} {cn : String} {T : u_T} {ty0 : Nat → FieldType} {fl : List (Unit ⊕ (Nat ⊕ Unit))} {v : Int64} (hd : decode cc pc = .ok (.putfield idx, 3)) (hk : kk < w_N w) (hs : w_sh w kk = shO ci fl) (hf : fl[i]? = some sL) (hone : ∀ j, j < fl.length → j ≠ i → fl[j]? ≠ some sL) (ho : ∀ j, j < w_N w → j ≠ kk → noL (w_sh w j) = true) (hc : vwCl[ci]? = some (cn, T, n)) (hi : i < n) (hin : ∀ v ∈ u_ws cn T n, v ∈ wg_ok) (hty : ∀ k, k < n → parseFieldDescriptor (T k).2.2.1 = some (ty0 k)) (hnm : ∀ a, a < n → ∀ b, b < n → a ≠ b → (T a).2.1 ≠ (T b).2.1) (hl : Cond.fieldLink own idx (T i).1 (T i).2.1 (T i).2.2.1 ∈ wg_ok) (hfin : (T i).2.2.2 = false) (hn : narrow (ty0 i) (.long v) = .long v) (hfit : fits (ty0 i) (.long v) = true) (hq : pc + 3 = q) (k : V w x nL (ul μ v) q lv st) : V w x nL μ pc lv (.long v :: .ref (w_ad w kk) :: st) := by
  subst hq
  intro H locs ls hP hS hl0
  have h0 := wl_get (w := w) μ hk
  rw [ce_O μ hs] at h0
  have hlen : i < (fl.mapIdx (fv1 w μ kk)).length := by rw [List.length_mapIdx]; exact (List.getElem?_eq_some_iff.mp hf).1
  refine va_put C.1 C.2.1 C.2.2.2.2.1 hin ty0 hty hnm C.2.2.2.1 C.2.2.2.2.2.2.2.1 hP (wl_D C.2.2.2.2.2.2.2.2.1 μ) hS kk h0 hc i hi (C.2.2.2.2.1 _ hl) (fun _ h => h) hfin (hty i hi) hn hfit hlen hd (fun H1 locs1 hP1 _ hS1 => ?_)
  rw [wl_ul_O hs hf hone ho] at hP1
  exact k H1 locs1 ls hP1 hS1 hl0
/-- arrays -/
theorem v_iald (C : Cx w x cc nL own rt rm) {kk n : Nat} {a : Int32} {q : Nat} (j : Nat) (hd : decode cc pc = .ok (.iaload, 1)) (hk : kk < w_N w) (hs : w_sh w kk = shI n) (ha : a = nI j) (hj : j < n) (hn : n < 2 ^ 31) (hq : pc + 1 = q) (k : V w x nL μ q lv (.int (μ.1 kk j) :: st)) : V w x nL μ pc lv (.int a :: .ref (w_ad w kk) :: st) := by
  subst hq; subst ha
  intro H locs ls hP hS hl0
  have h0 := wl_get (w := w) μ hk
  rw [ce_I μ hs] at h0
  refine va_iald C.1 C.2.1 C.2.2.2.2.2.2.2.1 hP kk 0 h0 rfl (vp_in_nI hj hn) hd ?_
  rw [nI_clamp (Nat.lt_trans hj hn)]
  exact k H locs ls hP hS hl0
theorem v_bald (C : Cx w x cc nL own rt rm) {kk n : Nat} {a : Int32} {q : Nat} (j : Nat) (hd : decode cc pc = .ok (.baload, 1)) (hk : kk < w_N w) (hs : w_sh w kk = shB n) (ha : a = nI j) (hj : j < n) (hn : n < 2 ^ 31) (hq : pc + 1 = q) (k : V w x nL μ q lv (.int (μ.1 kk j) :: st)) : V w x nL μ pc lv (.int a :: .ref (w_ad w kk) :: st) := by
  subst hq; subst ha
  intro H locs ls hP hS hl0
  have h0 := wl_get (w := w) μ hk
  rw [ce_B μ hs] at h0
  refine va_bald C.1 C.2.1 C.2.2.2.2.2.2.2.1 hP kk 1 h0 rfl (vp_in_nI hj hn) hd ?_
  rw [nI_clamp (Nat.lt_trans hj hn)]
  exact k H locs ls hP hS hl0
theorem v_iast (C : Cx w x cc nL own rt rm) {kk n : Nat} {a v : Int32} {q : Nat} (j : Nat) (hd : decode cc pc = .ok (.iastore, 1)) (hk : kk < w_N w) (hs : w_sh w kk = shI n) (ha : a = nI j) (hj : j < n) (hn : n < 2 ^ 31) (hq : pc + 1 = q) (k : V w x nL (up μ kk j v) q lv st) : V w x nL μ pc lv (.int v :: .int a :: .ref (w_ad w kk) :: st) := by
  subst hq; subst ha
  intro H locs ls hP hS hl0
  have h0 := wl_get (w := w) μ hk
  rw [ce_I μ hs] at h0
  refine va_iast C.1 C.2.1 C.2.2.2.2.2.2.2.1 hP (wl_D C.2.2.2.2.2.2.2.2.1 μ) hS kk 0 h0 rfl (vp_in_nI hj hn) hd (fun H1 locs1 hP1 _ hS1 => ?_)
  rw [nI_clamp (Nat.lt_trans hj hn), wl_ua_I hs] at hP1
  exact k H1 locs1 ls hP1 hS1 hl0
theorem v_bast (C : Cx w x cc nL own rt rm) {kk n : Nat} {a v : Int32} {q : Nat} (j : Nat) (hd : decode cc pc = .ok (.bastore, 1)) (hk : kk < w_N w) (hs : w_sh w kk = shB n) (ha : a = nI j) (hj : j < n) (hn : n < 2 ^ 31) (hq : pc + 1 = q) (k : V w x nL (up μ kk j (vp_nar .byte v)) q lv st) : V w x nL μ pc lv (.int v :: .int a :: .ref (w_ad w kk) :: st) := by
  subst hq; subst ha
  intro H locs ls hP hS hl0
  have h0 := wl_get (w := w) μ hk
  rw [ce_B μ hs] at h0
  refine va_bast C.1 C.2.1 C.2.2.2.2.2.2.2.1 hP (wl_D C.2.2.2.2.2.2.2.2.1 μ) hS kk 1 h0 rfl (vp_in_nI hj hn) hd (fun H1 locs1 hP1 _ hS1 => ?_)
  rw [nI_clamp (Nat.lt_trans hj hn), wl_ua_B hs] at hP1
  exact k H1 locs1 ls hP1 hS1 hl0
theorem v_aald (C : Cx w x cc nL own rt rm) {kk t0 n t : Nat} {cn : String} {a : Int32} {q : Nat} (j : Nat) (hd : decode cc pc = .ok (.aaload, 1)) (hk : kk < w_N w) (hs : w_sh w kk = shA t0 n t) (ht : (tys w)[t0]? = some (w_cA w t0, .object cn)) (ha : a = nI j) (hj : j < n) (hn : n < 2 ^ 31) (hq : pc + 1 = q) (k : V w x nL μ q lv (.ref (w_ad w (t + j)) :: st)) : V w x nL μ pc lv (.int a :: .ref (w_ad w kk) :: st) := by
  subst hq; subst ha
  intro H locs ls hP hS hl0
  have h0 := wl_get (w := w) μ hk
  rw [ce_A μ hs] at h0
  refine va_aldq C.1 C.2.1 C.2.2.2.2.2.2.2.1 hP kk t0 h0 ht (vp_in_nI hj hn) hd ?_
  rw [nI_clamp (Nat.lt_trans hj hn)]
  exact k H locs ls hP hS hl0
theorem v_alenI (C : Cx w x cc nL own rt rm) {kk n : Nat} {q : Nat} (hd : decode cc pc = .ok (.arraylength, 1)) (hk : kk < w_N w) (hs : w_sh w kk = shI n) (hq : pc + 1 = q) (k : V w x nL μ q lv (.int (nI n) :: st)) : V w x nL μ pc lv (.ref (w_ad w kk) :: st) := by
  subst hq
  intro H locs ls hP hS hl0
  have h0 := wl_get (w := w) μ hk
  rw [ce_I μ hs] at h0
  exact va_alen C.1 C.2.1 C.2.2.2.2.2.2.2.1 hP kk 0 h0 (ty := .int) rfl rfl hd (k H locs ls hP hS hl0)
/-- Math -/
theorem v_mmax (C : Cx w x cc nL own rt rm) {a b : Int32} {idx q : Nat} (hd : decode cc pc = .ok (.invokestatic idx, 3)) (hl : Cond.methodLink own idx Lib.Math.max.name ∈ wg_ok) (hst : Cond.static Lib.Math.max.name ∈ wg_ok) (hin : Cond.initialized "java/lang/Math" ∈ wg_ok) (hco : Cond.code Lib.Math.max.name Lib.Math.max.code 2 (some .int) ∈ wg_ok) (hf : 1 ≤ rm.frames) (hlo : (st.map fun v => v.category).sum + 13 ≤ rm.locals) (hq : pc + 3 = q) (k : V w x nL μ q lv (.int (if a < b then b else a) :: st)) : V w x nL μ pc lv (.int b :: .int a :: st) := by
  subst hq
  intro H locs ls hP hS hl0
  have hR := C.2.2.2.2.2.2.2.2.2.2
  exact va_mmax C.1 C.2.1 (C.2.2.1.trans hl0.1.symm) C.2.2.2.1 (C.2.2.2.2.1 _ hl) (C.2.2.2.2.1 _ hst) (C.2.2.2.2.1 _ hin) (C.2.2.2.2.1 _ hco) (by rw [hR]; exact hf) (by rw [hR]; exact hlo) (Nat.zero_le _) (Nat.zero_le _) hd (k H locs ls hP hS hl0)
theorem v_mmin (C : Cx w x cc nL own rt rm) {a b : Int32} {idx q : Nat} (hd : decode cc pc = .ok (.invokestatic idx, 3)) (hl : Cond.methodLink own idx Lib.Math.min.name ∈ wg_ok) (hst : Cond.static Lib.Math.min.name ∈ wg_ok) (hin : Cond.initialized "java/lang/Math" ∈ wg_ok) (hco : Cond.code Lib.Math.min.name Lib.Math.min.code 2 (some .int) ∈ wg_ok) (hf : 1 ≤ rm.frames) (hlo : (st.map fun v => v.category).sum + 13 ≤ rm.locals) (hq : pc + 3 = q) (k : V w x nL μ q lv (.int (if b < a then b else a) :: st)) : V w x nL μ pc lv (.int b :: .int a :: st) := by
  subst hq
  intro H locs ls hP hS hl0
  have hR := C.2.2.2.2.2.2.2.2.2.2
  exact va_mmin C.1 C.2.1 (C.2.2.1.trans hl0.1.symm) C.2.2.2.1 (C.2.2.2.2.1 _ hl) (C.2.2.2.2.1 _ hst) (C.2.2.2.2.1 _ hin) (C.2.2.2.2.1 _ hco) (by rw [hR]; exact hf) (by rw [hR]; exact hlo) (Nat.zero_le _) (Nat.zero_le _) hd (k H locs ls hP hS hl0)
/-- System.arraycopy over int arrays -/
theorem v_copy (C : Cx w x cc nL own rt rm) {k0 k1 n0 n1 : Nat} {a b c : Int32} {idx q : Nat} (i j n : Nat) (hd : decode cc pc = .ok (.invokestatic idx, 3)) (hl : Cond.methodLink own idx arraycopyName ∈ wg_ok) (hna : Cond.native arraycopyName ∈ wg_ok) (hst : Cond.static arraycopyName ∈ wg_ok) (hin : Cond.initialized "java/lang/System" ∈ wg_ok) (hk0 : k0 < w_N w) (hk1 : k1 < w_N w) (hs0 : w_sh w k0 = shI n0) (hs1 : w_sh w k1 = shI n1) (ha : a = nI i) (hb : b = nI j) (hc : c = nI n) (hi : i + n ≤ n0) (hj : j + n ≤ n1) (hn0 : n0 < 2 ^ 31) (hn1 : n1 < 2 ^ 31) (hf : 1 ≤ rm.frames) (hlo : (st.map fun v => v.category).sum + (nativeFrameWords "java/lang/System" "arraycopy" 5 + 11) ≤ rm.locals) (hq : pc + 3 = q) (k : V w x nL (ua μ k1 (va_cpy (μ.1 k0) (μ.1 k1) i j n)) q lv st) : V w x nL μ pc lv (.int c :: .int b :: .ref (w_ad w k1) :: .int a :: .ref (w_ad w k0) :: st) := by
  subst hq; subst ha; subst hb; subst hc
  intro H locs ls hP hS hl0
  have hR := C.2.2.2.2.2.2.2.2.2.2
  have h0 := wl_get (w := w) μ hk0
  rw [ce_I μ hs0] at h0
  have h1 := wl_get (w := w) μ hk1
  rw [ce_I μ hs1] at h1
  have ci := nI_clamp (n := i) (by omega)
  have cj := nI_clamp (n := j) (by omega)
  have cn := nI_clamp (n := n) (by omega)
  refine va_copyi C.1 C.2.1 (C.2.2.1.trans hl0.1.symm) C.2.2.2.1 (C.2.2.2.2.1 _ hl) (C.2.2.2.2.1 _ hna) (C.2.2.2.2.1 _ hst) (C.2.2.2.2.1 _ hin) C.2.2.2.2.2.2.2.1 hP (wl_D C.2.2.2.2.2.2.2.2.1 μ) hS k0 k1 0 0 h0 h1 (ty := .int) rfl rfl rfl (nI_pos (by omega)) (nI_pos (by omega)) (nI_pos (by omega)) (by rw [ci, cn]; exact hi) (by rw [cj, cn]; exact hj) (fun _ _ => rfl) (by rw [hR]; exact hf) (by rw [hR]; exact hlo) hd (fun H1 locs1 hP1 _ hS1 => ?_)
  rw [ci, cj, cn, wl_ua_I hs1] at hP1
  exact k H1 locs1 ls hP1 hS1 hl0
end VROWS
/-! contracts -/
def WU (w : WC) (μ : Me) (U : State) : Prop := WP w μ U.heap ∧ va_K (w_D w) vwCl (tys w) U ∧ Okw w ∧ w_X w U
theorem WU_blind (w : WC) (μ : Me) (av : List Value) : FrameBlind (va_Pc av (fun U => WU w μ U)) := by
  intro a U g mk h
  obtain ⟨h0, h1, h2, h3, h4⟩ := h
  exact ⟨h0, h1, va_K.moved (u := U) (U := U.calling g mk a) (Vm.Alike.refl U.vm) h2, h3, h3.2 U (U.calling g mk a) (State.WarmedH.refl U) (Nat.le_refl _) (fun _ _ _ => rfl) h4⟩
abbrev QI (w : WC) (post : Int32 → Me → Prop) : Array Value → State → Outcome → State → Prop := va_Qi post (fun u t => WP w u t.heap) (AA w)
abbrev QV (w : WC) (post : Me → Prop) : Array Value → State → Outcome → State → Prop := va_Qv post (fun u t => WP w u t.heap) (AA w)
abbrev QL (w : WC) (post : Int64 → Me → Prop) : Array Value → State → Outcome → State → Prop := va_Ql post (fun u t => WP w u t.heap) (AA w)
def CtI (l : Launch) (w : WC) (y : MethodName) (b : ByteArray) (n : Nat) (rt : Option FieldType) (rm : Room) (av : List Value) (μ : Me) (post : Int32 → Me → Prop) : Prop := Met l y (WG y b n rt) rm (va_Pc av (fun U => WU w μ U)) (QI w post) 0 0 (AA w)
def CtV (l : Launch) (w : WC) (y : MethodName) (b : ByteArray) (n : Nat) (rm : Room) (av : List Value) (μ : Me) (post : Me → Prop) : Prop := Met l y (WG y b n none) rm (va_Pc av (fun U => WU w μ U)) (QV w post) 0 0 (AA w)
def CtL (l : Launch) (w : WC) (y : MethodName) (b : ByteArray) (n : Nat) (rm : Room) (av : List Value) (μ : Me) (post : Int64 → Me → Prop) : Prop := Met l y (WG y b n (some .long)) rm (va_Pc av (fun U => WU w μ U)) (QL w post) 0 0 (AA w)
theorem Ct.mk {l : Launch} {w : WC} {y : MethodName} {b : ByteArray} {n : Nat} {rt : Option FieldType} {rm : Room} {av : List Value} {μ : Me} {Qc : Array Value → State → Outcome → State → Prop} (hy : plainName y.cls = true) (hn : (lg_sl av).length ≤ n) (body : ∀ x : Cy, y_l x = l → Cx w x b n y.cls rt rm → y_Q x = MQ (y_b x) Qc (y_a x) (y_s x) 0 0 (AA w) → V w x n μ 0 (lv_args 0 av) []) : Met l y (WG y b n rt) rm (va_Pc av (fun U => WU w μ U)) Qc 0 0 (AA w) := by
  refine Met.ofW (cc := b) (maxL := n) (ret := rt) hy rfl ?_
  intro p e s m args below meth c s₁ B hml hv
  obtain ⟨h0, h1, h2, h3, h4⟩ := hv
  subst h0
  have hts := atoms_spec (ws := WG y b n rt) B.pre
  have hown : s.vm.findClass y.cls = some m.cls := findClass_of_methodNamed B.named
  have hl := lv_entry av (n := n) hn
  rw [lg_entry_eq]
  exact body (p, l, e, (headSpec (WG y b n rt) rm).room, s, m, av.toArray, below, meth, c, _) rfl ⟨B.exec, B.bytes, hml, hown, fun v hv => hts v (List.mem_cons_of_mem _ hv), B.returns, B.notSynchronized, h2, h3, h4, rfl⟩ rfl s.heap [] _ h1 va_S.rf hl
section VCALLS
variable {w : WC} {x : Cy} {nL : Nat} {μ : Me} {pc : Nat} {lv : List (Nat × Value)} {st : List Value} {cc : ByteArray} {own : String} {rt : Option FieldType} {rm : Room}
theorem v_iret (C : Cx w x cc nL own (some .int) rm) {post : Int32 → Me → Prop} (hQ : y_Q x = MQ (y_b x) (QI w post) (y_a x) (y_s x) 0 0 (AA w)) {v : Int32} (hd : decode cc pc = .ok (.ireturn, 1)) (h : post v μ) : V w x nL μ pc lv [.int v] := by
  intro H locs ls hP hS hl
  rw [hQ]
  exact W.iret C.1 C.2.1 C.2.2.2.2.2.1 (fun t ht _ => ⟨⟨v, μ, rfl, h, by show WP w μ t.heap; rw [ht]; exact hP⟩, hS.F ht⟩) hS.2.2 hd C.2.2.2.2.2.2.1
theorem v_zret (C : Cx w x cc nL own (some .boolean) rm) {post : Int32 → Me → Prop} (hQ : y_Q x = MQ (y_b x) (QI w post) (y_a x) (y_s x) 0 0 (AA w)) {v : Int32} (hd : decode cc pc = .ok (.ireturn, 1)) (hn : narrow .boolean (.int v) = .int v) (h : post v μ) : V w x nL μ pc lv [.int v] := by
  intro H locs ls hP hS hl
  rw [hQ]
  exact W.zret C.1 C.2.1 C.2.2.2.2.2.1 hn (fun t ht _ => ⟨⟨v, μ, rfl, h, by show WP w μ t.heap; rw [ht]; exact hP⟩, hS.F ht⟩) hS.2.2 hd C.2.2.2.2.2.2.1
theorem v_lret (C : Cx w x cc nL own (some .long) rm) {post : Int64 → Me → Prop} (hQ : y_Q x = MQ (y_b x) (QL w post) (y_a x) (y_s x) 0 0 (AA w)) {v : Int64} (hd : decode cc pc = .ok (.lreturn, 1)) (h : post v μ) : V w x nL μ pc lv [.long v] := by
  intro H locs ls hP hS hl
  rw [hQ]
  exact W.lret C.1 C.2.1 C.2.2.2.2.2.1 (fun t ht _ => ⟨⟨v, μ, rfl, h, by show WP w μ t.heap; rw [ht]; exact hP⟩, hS.F ht⟩) hS.2.2 hd C.2.2.2.2.2.2.1
theorem v_vret (C : Cx w x cc nL own none rm) {post : Me → Prop} (hQ : y_Q x = MQ (y_b x) (QV w post) (y_a x) (y_s x) 0 0 (AA w)) (hd : decode cc pc = .ok (.return_, 1)) (h : post μ) : V w x nL μ pc lv [] := by
  intro H locs ls hP hS hl
  rw [hQ]
  exact W.vret C.1 C.2.1 C.2.2.2.2.2.1 (fun t ht _ => ⟨⟨μ, rfl, h, by show WP w μ t.heap; rw [ht]; exact hP⟩, hS.F ht⟩) hS.2.2 hd C.2.2.2.2.2.2.1
/-- what is known of a method: an instance's, a static one -/
def Mi (y : MethodName) (b : ByteArray) (n : Nat) (r : Option FieldType) (ar : Nat) : Prop := Cond.instanceMethod y ∈ wg_ok ∧ Cond.selects y.cls y y ∈ wg_ok ∧ Cond.initialized y.cls ∈ wg_ok ∧ Cond.code y b n r ∈ wg_ok ∧ (y.cls ≠ "java/lang/invoke/MethodHandle" ∧ y.cls ≠ "java/lang/invoke/VarHandle" ∧ (parseMethodDescriptor y.desc).map (fun d => d.parameters.length) = some ar)
def Ms (y : MethodName) (b : ByteArray) (n : Nat) (r : Option FieldType) (ar : Nat) : Prop := Cond.static y ∈ wg_ok ∧ Cond.initialized y.cls ∈ wg_ok ∧ Cond.code y b n r ∈ wg_ok ∧ (y.cls ≠ "java/lang/invoke/MethodHandle" ∧ y.cls ≠ "java/lang/invoke/VarHandle" ∧ (parseMethodDescriptor y.desc).map (fun d => d.parameters.length) = some ar)
def Rk (rm : Room) (n : Nat) (rmy : Room) : Prop := rmy.cells = 0 ∧ rmy.slots = 0 ∧ rmy.frames + 1 ≤ rm.frames ∧ 8 + (n + 11) + rmy.locals ≤ rm.locals
variable {y : MethodName} {b : ByteArray} {n ar idx : Nat} {r : Option FieldType} {rmy : Room} {As : List Value} {Qc : Array Value → State → Outcome → State → Prop} {av : List Value}
theorem WU_at (C : Cx w x cc nL own rt rm) {H : Heap} {locs : List Loc} (hP : WP w μ H) (hS : va_S (AA w) (y_s x).heap H locs) (U : State) (hU : U.heap = H) (hW : (y_s x).WarmedH U.vm) : WU w μ U :=
  ⟨by rw [hU]; exact hP, va_K.moved hW.alike C.2.2.2.2.2.2.2.1, C.2.2.2.2.2.2.2.2.1, C.2.2.2.2.2.2.2.2.1.2 (y_s x) U hW (by rw [hU]; exact hS.1) (fun q h1 h2 => by rw [hU]; exact hS.2.1 q h1 h2) C.2.2.2.2.2.2.2.2.2.1⟩
theorem v_runV (C : Cx w x cc nL own rt rm) (M : Mi y b n r ar) {kk ci : Nat} {fl : List (Unit ⊕ (Nat ⊕ Unit))} {T : u_T} {N0 : Nat} (hM : Met (y_l x) y (WG y b n r) rmy (va_Pc (.ref (w_ad w kk) :: As) (fun U => WU w μ U)) Qc 0 0 (AA w)) (hk : kk < w_N w) (hs : w_sh w kk = shO ci fl) (hc : vwCl[ci]? = some (y.cls, T, N0)) (hl : Cond.methodLink own idx y ∈ wg_ok) (hR : Rk rm n rmy) (ha : As.length = ar) (hr : (st.map fun v => v.category).sum ≤ 8) (hd : decode cc pc = .ok (.invokevirtual idx, 3)) {H : Heap} {locs : List Loc} {ls : Array Slot} (hP : WP w μ H) (hS : va_S (AA w) (y_s x).heap H locs) (hl0 : lv_has ls nL lv) :
    va_Run (y_p x) (y_l x) (y_e x) (y_R x) (y_s x) (y_m x) (y_a x) (y_b x) (y_t x) (y_c x) H locs 0 0 0 0 (F0 (y_m x) pc ls (As.reverse ++ .ref (w_ad w kk) :: st)) st (Qc (Value.ref (w_ad w kk) :: As).toArray) (AA w) := by
  have hts := C.2.2.2.2.1
  have hRR := C.2.2.2.2.2.2.2.2.2.2
  have h0 := wl_get (w := w) μ hk
  rw [ce_O μ hs] at h0
  refine va_runV (As := As) (rest := st) (C := y.cls) ⟨C.1, C.2.1, C.2.2.1, C.2.2.2.1, hts⟩ hM ⟨callB_of ar hts (wg_goodIn M.2.2.2.1) rfl hR.1 hR.2.1 (hts _ M.2.2.1) (hts _ hl) M.2.2.2.2 (by rw [hRR]; exact ⟨hR.2.2.1, hR.2.2.2⟩), hts _ M.1, hts _ M.2.1⟩ ⟨WU_blind w μ _, va_recv C.2.2.2.2.2.2.2.1 hP hc h0, fun U hU hW => ⟨rfl, WU_at C hP hS U hU hW⟩⟩ rfl ha hl0.1 rfl (lv_room hr) hd ⟨Nat.zero_le _, Nat.zero_le _⟩
theorem v_runS (C : Cx w x cc nL own rt rm) (M : Ms y b n r ar) (hM : Met (y_l x) y (WG y b n r) rmy (va_Pc As (fun U => WU w μ U)) Qc 0 0 (AA w)) (hl : Cond.methodLink own idx y ∈ wg_ok) (hR : Rk rm n rmy) (ha : As.length = ar) (hr : (st.map fun v => v.category).sum ≤ 8) (hd : decode cc pc = .ok (.invokestatic idx, 3)) {H : Heap} {locs : List Loc} {ls : Array Slot} (hP : WP w μ H) (hS : va_S (AA w) (y_s x).heap H locs) (hl0 : lv_has ls nL lv) :
    va_Run (y_p x) (y_l x) (y_e x) (y_R x) (y_s x) (y_m x) (y_a x) (y_b x) (y_t x) (y_c x) H locs 0 0 0 0 (F0 (y_m x) pc ls (As.reverse ++ st)) st (Qc As.toArray) (AA w) := by
  have hts := C.2.2.2.2.1
  have hRR := C.2.2.2.2.2.2.2.2.2.2
  refine va_runS (As := As) (rest := st) ⟨C.1, C.2.1, C.2.2.1, C.2.2.2.1, hts⟩ hM ⟨callB_of ar hts (wg_goodIn M.2.2.1) rfl hR.1 hR.2.1 (hts _ M.2.1) (hts _ hl) M.2.2.2 (by rw [hRR]; exact ⟨hR.2.2.1, hR.2.2.2⟩), hts _ M.1⟩ ⟨WU_blind w μ _, fun U hU hW => ⟨rfl, WU_at C hP hS U hU hW⟩⟩ rfl ha hl0.1 rfl (lv_room hr) hd ⟨Nat.zero_le _, Nat.zero_le _⟩
theorem v_runN (C : Cx w x cc nL own rt rm) (M : Ms y b n r ar) {host : String} (hM : Met (y_l x) y (WG y b n r) rmy (va_Pc As (fun U => WU w μ U)) Qc 0 0 (AA w)) (hl : ∀ U, w_X w U → va_Nw (.methodLinkNest own idx y host) U) (hR : Rk rm n rmy) (ha : As.length = ar) (hr : (st.map fun v => v.category).sum ≤ 8) (hd : decode cc pc = .ok (.invokestatic idx, 3)) {H : Heap} {locs : List Loc} {ls : Array Slot} (hP : WP w μ H) (hS : va_S (AA w) (y_s x).heap H locs) (hl0 : lv_has ls nL lv) :
    va_Run (y_p x) (y_l x) (y_e x) (y_R x) (y_s x) (y_m x) (y_a x) (y_b x) (y_t x) (y_c x) H locs 0 0 0 0 (F0 (y_m x) pc ls (As.reverse ++ st)) st (Qc As.toArray) (AA w) := by
  have hts := C.2.2.2.2.1
  have hRR := C.2.2.2.2.2.2.2.2.2.2
  refine va_runSN (As := As) (rest := st) ⟨C.1, C.2.1, C.2.2.1, C.2.2.2.1, hts⟩ hM ⟨va_cnB ar hts (wg_goodIn M.2.2.1) rfl hR.1 hR.2.1 (hl _ C.2.2.2.2.2.2.2.2.2.1) (hts _ M.2.1) M.2.2.2 (by rw [hRR]; exact ⟨hR.2.2.1, hR.2.2.2⟩), hts _ M.1, trivial⟩ ⟨WU_blind w μ _, fun U hU hW => ⟨rfl, WU_at C hP hS U hU hW⟩⟩ rfl ha hl0.1 rfl (lv_room hr) hd ⟨Nat.zero_le _, Nat.zero_le _⟩
/-- what comes behind a call -/
theorem v_ci {post : Int32 → Me → Prop} {a : Array Value} {st0 : List Value} {q : Nat} (hq : pc + 3 = q) (run : ∀ (H : Heap) (locs : List Loc) (ls : Array Slot), WP w μ H → va_S (AA w) (y_s x).heap H locs → lv_has ls nL lv → va_Run (y_p x) (y_l x) (y_e x) (y_R x) (y_s x) (y_m x) (y_a x) (y_b x) (y_t x) (y_c x) H locs 0 0 0 0 (F0 (y_m x) pc ls st0) st (QI w post a) (AA w)) (k : ∀ (v : Int32) (μ' : Me), post v μ' → V w x nL μ' q lv (.int v :: st)) : V w x nL μ pc lv st0 := by
  subst hq
  intro H locs ls hP hS hl
  exact va_calli (run H locs ls hP hS hl) hS (fun q _ h => h) (fun q h => h) (fun v u t H1 locs1 ht _ hp hB _ _ hS1 => k v u hp H1 locs1 ls (by rw [← ht]; exact hB) hS1 hl)
theorem v_cl {post : Int64 → Me → Prop} {a : Array Value} {st0 : List Value} {q : Nat} (hq : pc + 3 = q) (run : ∀ (H : Heap) (locs : List Loc) (ls : Array Slot), WP w μ H → va_S (AA w) (y_s x).heap H locs → lv_has ls nL lv → va_Run (y_p x) (y_l x) (y_e x) (y_R x) (y_s x) (y_m x) (y_a x) (y_b x) (y_t x) (y_c x) H locs 0 0 0 0 (F0 (y_m x) pc ls st0) st (QL w post a) (AA w)) (k : ∀ (v : Int64) (μ' : Me), post v μ' → V w x nL μ' q lv (.long v :: st)) : V w x nL μ pc lv st0 := by
  subst hq
  intro H locs ls hP hS hl
  exact va_calll (run H locs ls hP hS hl) hS (fun q _ h => h) (fun q h => h) (fun v u t H1 locs1 ht _ hp hB _ _ hS1 => k v u hp H1 locs1 ls (by rw [← ht]; exact hB) hS1 hl)
theorem v_cv {post : Me → Prop} {a : Array Value} {st0 : List Value} {q : Nat} (hq : pc + 3 = q) (run : ∀ (H : Heap) (locs : List Loc) (ls : Array Slot), WP w μ H → va_S (AA w) (y_s x).heap H locs → lv_has ls nL lv → va_Run (y_p x) (y_l x) (y_e x) (y_R x) (y_s x) (y_m x) (y_a x) (y_b x) (y_t x) (y_c x) H locs 0 0 0 0 (F0 (y_m x) pc ls st0) st (QV w post a) (AA w)) (k : ∀ (μ' : Me), post μ' → V w x nL μ' q lv st) : V w x nL μ pc lv st0 := by
  subst hq
  intro H locs ls hP hS hl
  exact va_callv (run H locs ls hP hS hl) hS (fun q _ h => h) (fun q h => h) (fun u t H1 locs1 ht _ hp hB _ _ hS1 => k u hp H1 locs1 ls (by rw [← ht]; exact hB) hS1 hl)
theorem v_iV (C : Cx w x cc nL own rt rm) {post : Int32 → Me → Prop} {kk ci : Nat} {fl : List (Unit ⊕ (Nat ⊕ Unit))} {T : u_T} {N0 q : Nat} {st0 : List Value} (hd : decode cc pc = .ok (.invokevirtual idx, 3)) (M : Mi y b n r ar) (hM : CtI (y_l x) w y b n r rmy (.ref (w_ad w kk) :: As) μ post) (hst : st0 = As.reverse ++ .ref (w_ad w kk) :: st) (hk : kk < w_N w) (hs : w_sh w kk = shO ci fl) (hc : vwCl[ci]? = some (y.cls, T, N0)) (hl : Cond.methodLink own idx y ∈ wg_ok) (hR : Rk rm n rmy) (ha : As.length = ar) (hr : (st.map fun v => v.category).sum ≤ 8) (hq : pc + 3 = q) (k : ∀ (v : Int32) (μ' : Me), post v μ' → V w x nL μ' q lv (.int v :: st)) : V w x nL μ pc lv st0 := by
  subst hst
  exact v_ci hq (fun H locs ls hP hS hl0 => v_runV C M hM hk hs hc hl hR ha hr hd hP hS hl0) k
theorem v_iS (C : Cx w x cc nL own rt rm) {post : Int32 → Me → Prop} {q : Nat} {st0 : List Value} (hd : decode cc pc = .ok (.invokestatic idx, 3)) (M : Ms y b n r ar) (hM : CtI (y_l x) w y b n r rmy As μ post) (hst : st0 = As.reverse ++ st) (hl : Cond.methodLink own idx y ∈ wg_ok) (hR : Rk rm n rmy) (ha : As.length = ar) (hr : (st.map fun v => v.category).sum ≤ 8) (hq : pc + 3 = q) (k : ∀ (v : Int32) (μ' : Me), post v μ' → V w x nL μ' q lv (.int v :: st)) : V w x nL μ pc lv st0 := by
  subst hst
  exact v_ci hq (fun H locs ls hP hS hl0 => v_runS C M hM hl hR ha hr hd hP hS hl0) k
theorem v_iN (C : Cx w x cc nL own rt rm) {post : Int32 → Me → Prop} {host : String} {q : Nat} {st0 : List Value} (hd : decode cc pc = .ok (.invokestatic idx, 3)) (M : Ms y b n r ar) (hM : CtI (y_l x) w y b n r rmy As μ post) (hst : st0 = As.reverse ++ st) (hl : ∀ U, w_X w U → va_Nw (.methodLinkNest own idx y host) U) (hR : Rk rm n rmy) (ha : As.length = ar) (hr : (st.map fun v => v.category).sum ≤ 8) (hq : pc + 3 = q) (k : ∀ (v : Int32) (μ' : Me), post v μ' → V w x nL μ' q lv (.int v :: st)) : V w x nL μ pc lv st0 := by
  subst hst
  exact v_ci hq (fun H locs ls hP hS hl0 => v_runN C M hM hl hR ha hr hd hP hS hl0) k
theorem v_lV (C : Cx w x cc nL own rt rm) {post : Int64 → Me → Prop} {kk ci : Nat} {fl : List (Unit ⊕ (Nat ⊕ Unit))} {T : u_T} {N0 q : Nat} {st0 : List Value} (hd : decode cc pc = .ok (.invokevirtual idx, 3)) (M : Mi y b n (some .long) ar) (hM : CtL (y_l x) w y b n rmy (.ref (w_ad w kk) :: As) μ post) (hst : st0 = As.reverse ++ .ref (w_ad w kk) :: st) (hk : kk < w_N w) (hs : w_sh w kk = shO ci fl) (hc : vwCl[ci]? = some (y.cls, T, N0)) (hl : Cond.methodLink own idx y ∈ wg_ok) (hR : Rk rm n rmy) (ha : As.length = ar) (hr : (st.map fun v => v.category).sum ≤ 8) (hq : pc + 3 = q) (k : ∀ (v : Int64) (μ' : Me), post v μ' → V w x nL μ' q lv (.long v :: st)) : V w x nL μ pc lv st0 := by
  subst hst
  exact v_cl hq (fun H locs ls hP hS hl0 => v_runV C M hM hk hs hc hl hR ha hr hd hP hS hl0) k
theorem v_lS (C : Cx w x cc nL own rt rm) {post : Int64 → Me → Prop} {q : Nat} {st0 : List Value} (hd : decode cc pc = .ok (.invokestatic idx, 3)) (M : Ms y b n (some .long) ar) (hM : CtL (y_l x) w y b n rmy As μ post) (hst : st0 = As.reverse ++ st) (hl : Cond.methodLink own idx y ∈ wg_ok) (hR : Rk rm n rmy) (ha : As.length = ar) (hr : (st.map fun v => v.category).sum ≤ 8) (hq : pc + 3 = q) (k : ∀ (v : Int64) (μ' : Me), post v μ' → V w x nL μ' q lv (.long v :: st)) : V w x nL μ pc lv st0 := by
  subst hst
  exact v_cl hq (fun H locs ls hP hS hl0 => v_runS C M hM hl hR ha hr hd hP hS hl0) k
theorem v_lN (C : Cx w x cc nL own rt rm) {post : Int64 → Me → Prop} {host : String} {q : Nat} {st0 : List Value} (hd : decode cc pc = .ok (.invokestatic idx, 3)) (M : Ms y b n (some .long) ar) (hM : CtL (y_l x) w y b n rmy As μ post) (hst : st0 = As.reverse ++ st) (hl : ∀ U, w_X w U → va_Nw (.methodLinkNest own idx y host) U) (hR : Rk rm n rmy) (ha : As.length = ar) (hr : (st.map fun v => v.category).sum ≤ 8) (hq : pc + 3 = q) (k : ∀ (v : Int64) (μ' : Me), post v μ' → V w x nL μ' q lv (.long v :: st)) : V w x nL μ pc lv st0 := by
  subst hst
  exact v_cl hq (fun H locs ls hP hS hl0 => v_runN C M hM hl hR ha hr hd hP hS hl0) k
theorem v_vV (C : Cx w x cc nL own rt rm) {post : Me → Prop} {kk ci : Nat} {fl : List (Unit ⊕ (Nat ⊕ Unit))} {T : u_T} {N0 q : Nat} {st0 : List Value} (hd : decode cc pc = .ok (.invokevirtual idx, 3)) (M : Mi y b n none ar) (hM : CtV (y_l x) w y b n rmy (.ref (w_ad w kk) :: As) μ post) (hst : st0 = As.reverse ++ .ref (w_ad w kk) :: st) (hk : kk < w_N w) (hs : w_sh w kk = shO ci fl) (hc : vwCl[ci]? = some (y.cls, T, N0)) (hl : Cond.methodLink own idx y ∈ wg_ok) (hR : Rk rm n rmy) (ha : As.length = ar) (hr : (st.map fun v => v.category).sum ≤ 8) (hq : pc + 3 = q) (k : ∀ (μ' : Me), post μ' → V w x nL μ' q lv st) : V w x nL μ pc lv st0 := by
  subst hst
  exact v_cv hq (fun H locs ls hP hS hl0 => v_runV C M hM hk hs hc hl hR ha hr hd hP hS hl0) k
theorem v_vS (C : Cx w x cc nL own rt rm) {post : Me → Prop} {q : Nat} {st0 : List Value} (hd : decode cc pc = .ok (.invokestatic idx, 3)) (M : Ms y b n none ar) (hM : CtV (y_l x) w y b n rmy As μ post) (hst : st0 = As.reverse ++ st) (hl : Cond.methodLink own idx y ∈ wg_ok) (hR : Rk rm n rmy) (ha : As.length = ar) (hr : (st.map fun v => v.category).sum ≤ 8) (hq : pc + 3 = q) (k : ∀ (μ' : Me), post μ' → V w x nL μ' q lv st) : V w x nL μ pc lv st0 := by
  subst hst
  exact v_cv hq (fun H locs ls hP hS hl0 => v_runS C M hM hl hR ha hr hd hP hS hl0) k
theorem v_vN (C : Cx w x cc nL own rt rm) {post : Me → Prop} {host : String} {q : Nat} {st0 : List Value} (hd : decode cc pc = .ok (.invokestatic idx, 3)) (M : Ms y b n none ar) (hM : CtV (y_l x) w y b n rmy As μ post) (hst : st0 = As.reverse ++ st) (hl : ∀ U, w_X w U → va_Nw (.methodLinkNest own idx y host) U) (hR : Rk rm n rmy) (ha : As.length = ar) (hr : (st.map fun v => v.category).sum ≤ 8) (hq : pc + 3 = q) (k : ∀ (μ' : Me), post μ' → V w x nL μ' q lv st) : V w x nL μ pc lv st0 := by
  subst hst
  exact v_cv hq (fun H locs ls hP hS hl0 => v_runN C M hM hl hR ha hr hd hP hS hl0) k
end VCALLS
end
section
set_option maxRecDepth 20000 in
theorem ml_L_9 : Cond.methodLink "SundayVisitsLaw" 9 yX4_init ∈ wg_ok := wg_in (List.mem_append_left _ (List.mem_of_getElem? (i := 17) rfl)) rfl
set_option maxRecDepth 20000 in
theorem ml_X4_3 : Cond.methodLink RX4 3 Lib.objectInit ∈ wg_ok := wg_in (List.mem_append_left _ (List.mem_of_getElem? (i := 20) rfl)) rfl
set_option maxRecDepth 20000 in
theorem ml_X4_11 : Cond.methodLink RX4 11 yX0_init ∈ wg_ok := wg_in (List.mem_append_left _ (List.mem_of_getElem? (i := 25) rfl)) rfl
set_option maxRecDepth 20000 in
theorem ml_X0_3 : Cond.methodLink RX0 3 Lib.objectInit ∈ wg_ok := wg_in (List.mem_append_left _ (List.mem_of_getElem? (i := 28) rfl)) rfl
set_option maxRecDepth 20000 in
theorem ml_X1_3 : Cond.methodLink RX1 3 Lib.objectInit ∈ wg_ok := wg_in (List.mem_append_left _ (List.mem_of_getElem? (i := 35) rfl)) rfl
set_option maxRecDepth 20000 in
theorem fl_X1_9 : Cond.fieldLink RX1 9 "SundayVisits$Resident" "kind" "I" ∈ wg_ok := wg_in (List.mem_append_left _ (List.mem_of_getElem? (i := 36) rfl)) rfl
set_option maxRecDepth 20000 in
theorem fl_X4_225 : Cond.fieldLink RX4 225 "SundayVisits$Resident" "kind" "I" ∈ wg_ok := wg_in (List.mem_append_left _ (List.mem_of_getElem? (i := 37) rfl)) rfl
set_option maxRecDepth 20000 in
theorem fl_X1_15 : Cond.fieldLink RX1 15 "SundayVisits$Resident" "mood" "I" ∈ wg_ok := wg_in (List.mem_append_left _ (List.mem_of_getElem? (i := 38) rfl)) rfl
set_option maxRecDepth 20000 in
theorem fl_X0_138 : Cond.fieldLink RX0 138 "SundayVisits$Resident" "mood" "I" ∈ wg_ok := wg_in (List.mem_append_left _ (List.mem_of_getElem? (i := 39) rfl)) rfl
set_option maxRecDepth 20000 in
theorem fl_X4_261 : Cond.fieldLink RX4 261 "SundayVisits$Resident" "mood" "I" ∈ wg_ok := wg_in (List.mem_append_left _ (List.mem_of_getElem? (i := 40) rfl)) rfl
set_option maxRecDepth 20000 in
theorem fl_X1_18 : Cond.fieldLink RX1 18 "SundayVisits$Resident" "friend" "I" ∈ wg_ok := wg_in (List.mem_append_left _ (List.mem_of_getElem? (i := 41) rfl)) rfl
set_option maxRecDepth 20000 in
theorem fl_X0_125 : Cond.fieldLink RX0 125 "SundayVisits$Resident" "friend" "I" ∈ wg_ok := wg_in (List.mem_append_left _ (List.mem_of_getElem? (i := 42) rfl)) rfl
set_option maxRecDepth 20000 in
theorem fl_X4_270 : Cond.fieldLink RX4 270 "SundayVisits$Resident" "friend" "I" ∈ wg_ok := wg_in (List.mem_append_left _ (List.mem_of_getElem? (i := 43) rfl)) rfl
set_option maxRecDepth 20000 in
theorem fl_X1_21 : Cond.fieldLink RX1 21 "SundayVisits$Resident" "waits" "I" ∈ wg_ok := wg_in (List.mem_append_left _ (List.mem_of_getElem? (i := 44) rfl)) rfl
set_option maxRecDepth 20000 in
theorem fl_X0_135 : Cond.fieldLink RX0 135 "SundayVisits$Resident" "waits" "I" ∈ wg_ok := wg_in (List.mem_append_left _ (List.mem_of_getElem? (i := 45) rfl)) rfl
set_option maxRecDepth 20000 in
theorem fl_X1_24 : Cond.fieldLink RX1 24 "SundayVisits$Resident" "came" "I" ∈ wg_ok := wg_in (List.mem_append_left _ (List.mem_of_getElem? (i := 46) rfl)) rfl
set_option maxRecDepth 20000 in
theorem fl_X0_141 : Cond.fieldLink RX0 141 "SundayVisits$Resident" "came" "I" ∈ wg_ok := wg_in (List.mem_append_left _ (List.mem_of_getElem? (i := 47) rfl)) rfl
set_option maxRecDepth 20000 in
theorem ml_X0_32 : Cond.methodLink RX0 32 yJ7_fill_53178 ∈ wg_ok := wg_in (List.mem_append_left _ (List.mem_of_getElem? (i := 60) rfl)) rfl
set_option maxRecDepth 20000 in
theorem fl_X0_9 : Cond.fieldLink RX0 9 "SundayVisits$Home" "settings" "[I" ∈ wg_ok := wg_in (List.mem_append_left _ (List.mem_of_getElem? (i := 63) rfl)) rfl
set_option maxRecDepth 20000 in
theorem fl_X4_53 : Cond.fieldLink RX4 53 "SundayVisits$Home" "settings" "[I" ∈ wg_ok := wg_in (List.mem_append_left _ (List.mem_of_getElem? (i := 64) rfl)) rfl
set_option maxRecDepth 20000 in
theorem fl_X3_97 : Cond.fieldLink RX3 97 "SundayVisits$Home" "settings" "[I" ∈ wg_ok := wg_in (List.mem_append_left _ (List.mem_of_getElem? (i := 65) rfl)) rfl
set_option maxRecDepth 20000 in
theorem fl_X0_15 : Cond.fieldLink RX0 15 "SundayVisits$Home" "list" "[I" ∈ wg_ok := wg_in (List.mem_append_left _ (List.mem_of_getElem? (i := 66) rfl)) rfl
set_option maxRecDepth 20000 in
theorem fl_X4_60 : Cond.fieldLink RX4 60 "SundayVisits$Home" "list" "[I" ∈ wg_ok := wg_in (List.mem_append_left _ (List.mem_of_getElem? (i := 67) rfl)) rfl
set_option maxRecDepth 20000 in
theorem fl_X3_100 : Cond.fieldLink RX3 100 "SundayVisits$Home" "list" "[I" ∈ wg_ok := wg_in (List.mem_append_left _ (List.mem_of_getElem? (i := 68) rfl)) rfl
set_option maxRecDepth 20000 in
theorem fl_X0_20 : Cond.fieldLink RX0 20 "SundayVisits$Home" "residents" "[LSundayVisits$Resident;" ∈ wg_ok := wg_in (List.mem_append_left _ (List.mem_of_getElem? (i := 69) rfl)) rfl
set_option maxRecDepth 20000 in
theorem fl_X3_64 : Cond.fieldLink RX3 64 "SundayVisits$Home" "residents" "[LSundayVisits$Resident;" ∈ wg_ok := wg_in (List.mem_append_left _ (List.mem_of_getElem? (i := 70) rfl)) rfl
set_option maxRecDepth 20000 in
theorem fl_X4_71 : Cond.fieldLink RX4 71 "SundayVisits$Home" "residents" "[LSundayVisits$Resident;" ∈ wg_ok := wg_in (List.mem_append_left _ (List.mem_of_getElem? (i := 71) rfl)) rfl
set_option maxRecDepth 20000 in
theorem fl_X0_44 : Cond.fieldLink RX0 44 "SundayVisits$Home" "size" "I" ∈ wg_ok := wg_in (List.mem_append_left _ (List.mem_of_getElem? (i := 72) rfl)) rfl
set_option maxRecDepth 20000 in
theorem fl_X4_147 : Cond.fieldLink RX4 147 "SundayVisits$Home" "size" "I" ∈ wg_ok := wg_in (List.mem_append_left _ (List.mem_of_getElem? (i := 73) rfl)) rfl
set_option maxRecDepth 20000 in
theorem fl_X0_51 : Cond.fieldLink RX0 51 "SundayVisits$Home" "sunday" "I" ∈ wg_ok := wg_in (List.mem_append_left _ (List.mem_of_getElem? (i := 74) rfl)) rfl
set_option maxRecDepth 20000 in
theorem fl_X4_101 : Cond.fieldLink RX4 101 "SundayVisits$Home" "sunday" "I" ∈ wg_ok := wg_in (List.mem_append_left _ (List.mem_of_getElem? (i := 75) rfl)) rfl
set_option maxRecDepth 20000 in
theorem fl_X0_25 : Cond.fieldLink RX0 25 "SundayVisits$Home" "z" "I" ∈ wg_ok := wg_in (List.mem_append_left _ (List.mem_of_getElem? (i := 76) rfl)) rfl
set_option maxRecDepth 20000 in
theorem fl_X4_204 : Cond.fieldLink RX4 204 "SundayVisits$Home" "z" "I" ∈ wg_ok := wg_in (List.mem_append_left _ (List.mem_of_getElem? (i := 77) rfl)) rfl
set_option maxRecDepth 20000 in
theorem fl_X0_29 : Cond.fieldLink RX0 29 "SundayVisits$Home" "spots" "[I" ∈ wg_ok := wg_in (List.mem_append_left _ (List.mem_of_getElem? (i := 78) rfl)) rfl
set_option maxRecDepth 20000 in
theorem fl_X4_221 : Cond.fieldLink RX4 221 "SundayVisits$Home" "spots" "[I" ∈ wg_ok := wg_in (List.mem_append_left _ (List.mem_of_getElem? (i := 79) rfl)) rfl
set_option maxRecDepth 20000 in
theorem fl_X0_73 : Cond.fieldLink RX0 73 "SundayVisits$Home" "visited" "I" ∈ wg_ok := wg_in (List.mem_append_left _ (List.mem_of_getElem? (i := 80) rfl)) rfl
set_option maxRecDepth 20000 in
theorem fl_X4_120 : Cond.fieldLink RX4 120 "SundayVisits$Home" "visited" "I" ∈ wg_ok := wg_in (List.mem_append_left _ (List.mem_of_getElem? (i := 81) rfl)) rfl
set_option maxRecDepth 20000 in
theorem fl_X0_90 : Cond.fieldLink RX0 90 "SundayVisits$Home" "sharing" "I" ∈ wg_ok := wg_in (List.mem_append_left _ (List.mem_of_getElem? (i := 82) rfl)) rfl
set_option maxRecDepth 20000 in
theorem fl_X4_123 : Cond.fieldLink RX4 123 "SundayVisits$Home" "sharing" "I" ∈ wg_ok := wg_in (List.mem_append_left _ (List.mem_of_getElem? (i := 83) rfl)) rfl
set_option maxRecDepth 20000 in
theorem fl_X0_96 : Cond.fieldLink RX0 96 "SundayVisits$Home" "helped" "I" ∈ wg_ok := wg_in (List.mem_append_left _ (List.mem_of_getElem? (i := 84) rfl)) rfl
set_option maxRecDepth 20000 in
theorem fl_X4_126 : Cond.fieldLink RX4 126 "SundayVisits$Home" "helped" "I" ∈ wg_ok := wg_in (List.mem_append_left _ (List.mem_of_getElem? (i := 85) rfl)) rfl
set_option maxRecDepth 20000 in
theorem ml_X4_28 : Cond.methodLink RX4 28 yX3_init ∈ wg_ok := wg_in (List.mem_append_left _ (List.mem_of_getElem? (i := 109) rfl)) rfl
set_option maxRecDepth 20000 in
theorem ml_X3_3 : Cond.methodLink RX3 3 Lib.objectInit ∈ wg_ok := wg_in (List.mem_append_left _ (List.mem_of_getElem? (i := 112) rfl)) rfl
set_option maxRecDepth 20000 in
theorem fl_X3_9 : Cond.fieldLink RX3 9 "SundayVisits$Tape" "bytes" "[I" ∈ wg_ok := wg_in (List.mem_append_left _ (List.mem_of_getElem? (i := 113) rfl)) rfl
set_option maxRecDepth 20000 in
theorem fl_X3_15 : Cond.fieldLink RX3 15 "SundayVisits$Tape" "length" "I" ∈ wg_ok := wg_in (List.mem_append_left _ (List.mem_of_getElem? (i := 114) rfl)) rfl
set_option maxRecDepth 20000 in
theorem fl_X4_207 : Cond.fieldLink RX4 207 "SundayVisits$Tape" "length" "I" ∈ wg_ok := wg_in (List.mem_append_left _ (List.mem_of_getElem? (i := 115) rfl)) rfl
set_option maxRecDepth 20000 in
theorem fl_X3_32 : Cond.fieldLink RX3 32 "SundayVisits$Tape" "token" "I" ∈ wg_ok := wg_in (List.mem_append_left _ (List.mem_of_getElem? (i := 116) rfl)) rfl
set_option maxRecDepth 20000 in
theorem fl_X3_29 : Cond.fieldLink RX3 29 "SundayVisits$Tape" "begin" "I" ∈ wg_ok := wg_in (List.mem_append_left _ (List.mem_of_getElem? (i := 117) rfl)) rfl
set_option maxRecDepth 20000 in
theorem fl_X3_19 : Cond.fieldLink RX3 19 "SundayVisits$Tape" "end" "I" ∈ wg_ok := wg_in (List.mem_append_left _ (List.mem_of_getElem? (i := 118) rfl)) rfl
set_option maxRecDepth 20000 in
theorem fl_X3_82 : Cond.fieldLink RX3 82 "SundayVisits$Tape" "value" "I" ∈ wg_ok := wg_in (List.mem_append_left _ (List.mem_of_getElem? (i := 119) rfl)) rfl
set_option maxRecDepth 20000 in
theorem ml_X4_39 : Cond.methodLink RX4 39 yX2_init ∈ wg_ok := wg_in (List.mem_append_left _ (List.mem_of_getElem? (i := 136) rfl)) rfl
set_option maxRecDepth 20000 in
theorem ml_X2_3 : Cond.methodLink RX2 3 Lib.objectInit ∈ wg_ok := wg_in (List.mem_append_left _ (List.mem_of_getElem? (i := 139) rfl)) rfl
set_option maxRecDepth 20000 in
theorem fl_X2_15 : Cond.fieldLink RX2 15 "SundayVisits$Sheet" "bits" "I" ∈ wg_ok := wg_in (List.mem_append_left _ (List.mem_of_getElem? (i := 140) rfl)) rfl
set_option maxRecDepth 20000 in
theorem fl_X4_249 : Cond.fieldLink RX4 249 "SundayVisits$Sheet" "bits" "I" ∈ wg_ok := wg_in (List.mem_append_left _ (List.mem_of_getElem? (i := 141) rfl)) rfl
set_option maxRecDepth 20000 in
theorem fl_X2_19 : Cond.fieldLink RX2 19 "SundayVisits$Sheet" "size" "I" ∈ wg_ok := wg_in (List.mem_append_left _ (List.mem_of_getElem? (i := 142) rfl)) rfl
set_option maxRecDepth 20000 in
theorem fl_X4_236 : Cond.fieldLink RX4 236 "SundayVisits$Sheet" "size" "I" ∈ wg_ok := wg_in (List.mem_append_left _ (List.mem_of_getElem? (i := 143) rfl)) rfl
set_option maxRecDepth 20000 in
theorem fl_X2_9 : Cond.fieldLink RX2 9 "SundayVisits$Sheet" "numbers" "[I" ∈ wg_ok := wg_in (List.mem_append_left _ (List.mem_of_getElem? (i := 144) rfl)) rfl
set_option maxRecDepth 20000 in
theorem fl_X4_240 : Cond.fieldLink RX4 240 "SundayVisits$Sheet" "numbers" "[I" ∈ wg_ok := wg_in (List.mem_append_left _ (List.mem_of_getElem? (i := 145) rfl)) rfl
set_option maxRecDepth 20000 in
theorem fl_X4_12 : Cond.fieldLink RX4 12 "SundayVisits" "live" "LSundayVisits$Home;" ∈ wg_ok := wg_in (List.mem_append_left _ (List.mem_of_getElem? (i := 153) rfl)) rfl
set_option maxRecDepth 20000 in
theorem fl_X4_16 : Cond.fieldLink RX4 16 "SundayVisits" "trial" "LSundayVisits$Home;" ∈ wg_ok := wg_in (List.mem_append_left _ (List.mem_of_getElem? (i := 154) rfl)) rfl
set_option maxRecDepth 20000 in
theorem fl_X4_19 : Cond.fieldLink RX4 19 "SundayVisits" "kept" "LSundayVisits$Home;" ∈ wg_ok := wg_in (List.mem_append_left _ (List.mem_of_getElem? (i := 155) rfl)) rfl
set_option maxRecDepth 20000 in
theorem fl_X4_22 : Cond.fieldLink RX4 22 "SundayVisits" "keeps" "Z" ∈ wg_ok := wg_in (List.mem_append_left _ (List.mem_of_getElem? (i := 156) rfl)) rfl
set_option maxRecDepth 20000 in
theorem fl_X4_29 : Cond.fieldLink RX4 29 "SundayVisits" "tape" "LSundayVisits$Tape;" ∈ wg_ok := wg_in (List.mem_append_left _ (List.mem_of_getElem? (i := 157) rfl)) rfl
set_option maxRecDepth 20000 in
theorem fl_X4_35 : Cond.fieldLink RX4 35 "SundayVisits" "sheets" "[LSundayVisits$Sheet;" ∈ wg_ok := wg_in (List.mem_append_left _ (List.mem_of_getElem? (i := 158) rfl)) rfl
set_option maxRecDepth 20000 in
theorem fl_X4_40 : Cond.fieldLink RX4 40 "SundayVisits" "found" "[I" ∈ wg_ok := wg_in (List.mem_append_left _ (List.mem_of_getElem? (i := 159) rfl)) rfl
set_option maxRecDepth 20000 in
theorem ml_L_13 : Cond.methodLink "SundayVisitsLaw" 13 yX4_set ∈ wg_ok := wg_in (List.mem_append_left _ (List.mem_of_getElem? (i := 175) rfl)) rfl
set_option maxRecDepth 20000 in
theorem ml_X4_44 : Cond.methodLink RX4 44 yX4_settingFits ∈ wg_ok := wg_in (List.mem_append_left _ (List.mem_of_getElem? (i := 179) rfl)) rfl
set_option maxRecDepth 20000 in
theorem ml_X4_56 : Cond.methodLink RX4 56 yX4_within ∈ wg_ok := wg_in (List.mem_append_left _ (List.mem_of_getElem? (i := 182) rfl)) rfl
set_option maxRecDepth 20000 in
theorem ml_X4_154 : Cond.methodLink RX4 154 yX4_leastSetting ∈ wg_ok := wg_in (List.mem_append_left _ (List.mem_of_getElem? (i := 185) rfl)) rfl
set_option maxRecDepth 20000 in
theorem ml_X4_157 : Cond.methodLink RX4 157 yX4_mostSetting ∈ wg_ok := wg_in (List.mem_append_left _ (List.mem_of_getElem? (i := 188) rfl)) rfl
set_option maxRecDepth 20000 in
theorem cn_X4_48 : Cond.constant RX4 48 (-1000001) ∈ wg_ok := wg_in (List.mem_append_left _ (List.mem_of_getElem? (i := 191) rfl)) rfl
set_option maxRecDepth 20000 in
theorem ml_X4_49 : Cond.methodLink RX4 49 yX4_tell ∈ wg_ok := wg_in (List.mem_append_left _ (List.mem_of_getElem? (i := 192) rfl)) rfl
set_option maxRecDepth 20000 in
theorem ml_L_18 : Cond.methodLink "SundayVisitsLaw" 18 yX4_home ∈ wg_ok := wg_in (List.mem_append_left _ (List.mem_of_getElem? (i := 196) rfl)) rfl
set_option maxRecDepth 20000 in
theorem ml_L_23 : Cond.methodLink "SundayVisitsLaw" 23 yX4_visit ∈ wg_ok := wg_in (List.mem_append_left _ (List.mem_of_getElem? (i := 200) rfl)) rfl
set_option maxRecDepth 20000 in
theorem ml_L_27 : Cond.methodLink "SundayVisitsLaw" 27 yX4_visits ∈ wg_ok := wg_in (List.mem_append_left _ (List.mem_of_getElem? (i := 204) rfl)) rfl
set_option maxRecDepth 20000 in
theorem ml_L_31 : Cond.methodLink "SundayVisitsLaw" 31 yX4_resident ∈ wg_ok := wg_in (List.mem_append_left _ (List.mem_of_getElem? (i := 208) rfl)) rfl
set_option maxRecDepth 20000 in
theorem ml_X4_63 : Cond.methodLink RX4 63 yX0_welcome ∈ wg_ok := wg_in (List.mem_append_left _ (List.mem_of_getElem? (i := 212) rfl)) rfl
set_option maxRecDepth 20000 in
theorem ml_X0_58 : Cond.methodLink RX0 58 yX1_begin ∈ wg_ok := wg_in (List.mem_append_left _ (List.mem_of_getElem? (i := 216) rfl)) rfl
set_option maxRecDepth 20000 in
theorem cn_X4_66 : Cond.constant RX4 66 (-1000002) ∈ wg_ok := wg_in (List.mem_append_left _ (List.mem_of_getElem? (i := 220) rfl)) rfl
set_option maxRecDepth 20000 in
theorem ml_L_35 : Cond.methodLink "SundayVisitsLaw" 35 yX4_of ∈ wg_ok := wg_in (List.mem_append_left _ (List.mem_of_getElem? (i := 221) rfl)) rfl
set_option maxRecDepth 20000 in
theorem ml_X4_67 : Cond.methodLink RX4 67 yX0_has ∈ wg_ok := wg_in (List.mem_append_left _ (List.mem_of_getElem? (i := 225) rfl)) rfl
set_option maxRecDepth 20000 in
theorem ml_X4_75 : Cond.methodLink RX4 75 yX1_fact ∈ wg_ok := wg_in (List.mem_append_left _ (List.mem_of_getElem? (i := 230) rfl)) rfl
set_option maxRecDepth 20000 in
theorem ml_X4_80 : Cond.methodLink RX4 80 yX1_seats ∈ wg_ok := wg_in (List.mem_append_left _ (List.mem_of_getElem? (i := 234) rfl)) rfl
set_option maxRecDepth 20000 in
theorem ml_X4_84 : Cond.methodLink RX4 84 yX1_gains ∈ wg_ok := wg_in (List.mem_append_left _ (List.mem_of_getElem? (i := 238) rfl)) rfl
set_option maxRecDepth 20000 in
theorem ml_X1_31 : Cond.methodLink RX1 31 Lib.Math.min.name ∈ wg_ok := wg_in (List.mem_append_right _ (List.mem_append_left _ (List.mem_of_getElem? (i := 2) rfl))) rfl
set_option maxRecDepth 20000 in
theorem ml_X4_87 : Cond.methodLink RX4 87 yX1_loses ∈ wg_ok := wg_in (List.mem_append_right _ (List.mem_append_left _ (List.mem_of_getElem? (i := 5) rfl))) rfl
set_option maxRecDepth 20000 in
theorem ml_X4_90 : Cond.methodLink RX4 90 yX1_shares ∈ wg_ok := wg_in (List.mem_append_right _ (List.mem_append_left _ (List.mem_of_getElem? (i := 9) rfl))) rfl
set_option maxRecDepth 20000 in
theorem ml_L_39 : Cond.methodLink "SundayVisitsLaw" 39 yX4_change ∈ wg_ok := wg_in (List.mem_append_right _ (List.mem_append_left _ (List.mem_of_getElem? (i := 13) rfl))) rfl
set_option maxRecDepth 20000 in
theorem ml_X4_94 : Cond.methodLink RX4 94 yX0_factFits ∈ wg_ok := wg_in (List.mem_append_right _ (List.mem_append_left _ (List.mem_of_getElem? (i := 17) rfl))) rfl
set_option maxRecDepth 20000 in
theorem ml_X0_62 : Cond.methodLink RX0 62 yX0_has ∈ wg_ok := wg_in (List.mem_append_right _ (List.mem_append_left _ (List.mem_of_getElem? (i := 21) rfl))) rfl
set_option maxRecDepth 20000 in
theorem ml_X4_97 : Cond.methodLink RX4 97 yX1_become ∈ wg_ok := wg_in (List.mem_append_right _ (List.mem_append_left _ (List.mem_of_getElem? (i := 22) rfl))) rfl
set_option maxRecDepth 20000 in
theorem ml_L_44 : Cond.methodLink "SundayVisitsLaw" 44 yX4_go ∈ wg_ok := wg_in (List.mem_append_right _ (List.mem_append_left _ (List.mem_of_getElem? (i := 26) rfl))) rfl
set_option maxRecDepth 20000 in
theorem cn_X4_105 : Cond.constant RX4 105 (99999) ∈ wg_ok := wg_in (List.mem_append_right _ (List.mem_append_left _ (List.mem_of_getElem? (i := 30) rfl))) rfl
set_option maxRecDepth 20000 in
theorem cn_X4_106 : Cond.constant RX4 106 (-1000005) ∈ wg_ok := wg_in (List.mem_append_right _ (List.mem_append_left _ (List.mem_of_getElem? (i := 31) rfl))) rfl
set_option maxRecDepth 20000 in
theorem ml_X4_107 : Cond.methodLink RX4 107 yX0_pass ∈ wg_ok := wg_in (List.mem_append_right _ (List.mem_append_left _ (List.mem_of_getElem? (i := 32) rfl))) rfl
set_option maxRecDepth 20000 in
theorem ml_X0_67 : Cond.methodLink RX0 67 yX0_passSunday ∈ wg_ok := wg_in (List.mem_append_right _ (List.mem_append_left _ (List.mem_of_getElem? (i := 36) rfl))) rfl
set_option maxRecDepth 20000 in
theorem ml_X0_70 : Cond.methodLink RX0 70 yX0_decide ∈ wg_ok := wg_in (List.mem_append_right _ (List.mem_append_left _ (List.mem_of_getElem? (i := 40) rfl))) rfl
set_option maxRecDepth 20000 in
theorem ml_X0_112 : Cond.methodLink RX0 112 yX0_seated ∈ wg_ok := wg_in (List.mem_append_right _ (List.mem_append_left _ (List.mem_of_getElem? (i := 44) rfl))) rfl
set_option maxRecDepth 20000 in
theorem ml_X0_122 : Cond.methodLink RX0 122 yX1_seats ∈ wg_ok := wg_in (List.mem_append_right _ (List.mem_append_left _ (List.mem_of_getElem? (i := 48) rfl))) rfl
set_option maxRecDepth 20000 in
theorem ml_X0_115 : Cond.methodLink RX0 115 yX0_sharers ∈ wg_ok := wg_in (List.mem_append_right _ (List.mem_append_left _ (List.mem_of_getElem? (i := 52) rfl))) rfl
set_option maxRecDepth 20000 in
theorem ml_X0_128 : Cond.methodLink RX0 128 yX1_shares ∈ wg_ok := wg_in (List.mem_append_right _ (List.mem_append_left _ (List.mem_of_getElem? (i := 56) rfl))) rfl
set_option maxRecDepth 20000 in
theorem ml_X0_119 : Cond.methodLink RX0 119 yX0_volunteersTo ∈ wg_ok := wg_in (List.mem_append_right _ (List.mem_append_left _ (List.mem_of_getElem? (i := 57) rfl))) rfl
set_option maxRecDepth 20000 in
theorem ml_X0_132 : Cond.methodLink RX0 132 yX0_longestWaiting ∈ wg_ok := wg_in (List.mem_append_right _ (List.mem_append_left _ (List.mem_of_getElem? (i := 61) rfl))) rfl
set_option maxRecDepth 20000 in
theorem ml_X0_76 : Cond.methodLink RX0 76 yJ6_bitCount_0f7a4 ∈ wg_ok := wg_in (List.mem_append_right _ (List.mem_append_left _ (List.mem_of_getElem? (i := 65) rfl))) rfl
set_option maxRecDepth 20000 in
theorem cn_J6_265 : Cond.constant RJ6 265 (1431655765) ∈ wg_ok := wg_in (List.mem_append_right _ (List.mem_append_left _ (List.mem_of_getElem? (i := 68) rfl))) rfl
set_option maxRecDepth 20000 in
theorem cn_J6_266 : Cond.constant RJ6 266 (858993459) ∈ wg_ok := wg_in (List.mem_append_right _ (List.mem_append_left _ (List.mem_of_getElem? (i := 69) rfl))) rfl
set_option maxRecDepth 20000 in
theorem cn_J6_267 : Cond.constant RJ6 267 (252645135) ∈ wg_ok := wg_in (List.mem_append_right _ (List.mem_append_left _ (List.mem_of_getElem? (i := 70) rfl))) rfl
set_option maxRecDepth 20000 in
theorem ml_X0_86 : Cond.methodLink RX0 86 yX1_beVisited ∈ wg_ok := wg_in (List.mem_append_right _ (List.mem_append_left _ (List.mem_of_getElem? (i := 71) rfl))) rfl
set_option maxRecDepth 20000 in
theorem ml_X1_40 : Cond.methodLink RX1 40 yX1_gains ∈ wg_ok := wg_in (List.mem_append_right _ (List.mem_append_left _ (List.mem_of_getElem? (i := 75) rfl))) rfl
set_option maxRecDepth 20000 in
theorem ml_X1_44 : Cond.methodLink RX1 44 yX1_feel ∈ wg_ok := wg_in (List.mem_append_right _ (List.mem_append_left _ (List.mem_of_getElem? (i := 76) rfl))) rfl
set_option maxRecDepth 20000 in
theorem ml_X1_37 : Cond.methodLink RX1 37 Lib.Math.max.name ∈ wg_ok := wg_in (List.mem_append_right _ (List.mem_append_left _ (List.mem_of_getElem? (i := 80) rfl))) rfl
set_option maxRecDepth 20000 in
theorem ml_X0_93 : Cond.methodLink RX0 93 yX1_beSharing ∈ wg_ok := wg_in (List.mem_append_right _ (List.mem_append_left _ (List.mem_of_getElem? (i := 83) rfl))) rfl
set_option maxRecDepth 20000 in
theorem ml_X1_48 : Cond.methodLink RX1 48 yX1_waitOn ∈ wg_ok := wg_in (List.mem_append_right _ (List.mem_append_left _ (List.mem_of_getElem? (i := 87) rfl))) rfl
set_option maxRecDepth 20000 in
theorem ml_X0_99 : Cond.methodLink RX0 99 yX1_beHelped ∈ wg_ok := wg_in (List.mem_append_right _ (List.mem_append_left _ (List.mem_of_getElem? (i := 91) rfl))) rfl
set_option maxRecDepth 20000 in
theorem ml_X0_102 : Cond.methodLink RX0 102 yX1_beAlone ∈ wg_ok := wg_in (List.mem_append_right _ (List.mem_append_left _ (List.mem_of_getElem? (i := 95) rfl))) rfl
set_option maxRecDepth 20000 in
theorem ml_X1_51 : Cond.methodLink RX1 51 yX1_loses ∈ wg_ok := wg_in (List.mem_append_right _ (List.mem_append_left _ (List.mem_of_getElem? (i := 99) rfl))) rfl
set_option maxRecDepth 20000 in
theorem cn_X0_105 : Cond.constant RX0 105 (99999) ∈ wg_ok := wg_in (List.mem_append_right _ (List.mem_append_left _ (List.mem_of_getElem? (i := 100) rfl))) rfl
set_option maxRecDepth 20000 in
theorem ml_X0_106 : Cond.methodLink RX0 106 Lib.Math.min.name ∈ wg_ok := wg_in (List.mem_append_right _ (List.mem_append_left _ (List.mem_of_getElem? (i := 101) rfl))) rfl
set_option maxRecDepth 20000 in
theorem ml_X4_111 : Cond.methodLink RX4 111 yX0_moods ∈ wg_ok := wg_in (List.mem_append_right _ (List.mem_append_left _ (List.mem_of_getElem? (i := 102) rfl))) rfl
set_option maxRecDepth 20000 in
theorem ml_L_48 : Cond.methodLink "SundayVisitsLaw" 48 yX4_now ∈ wg_ok := wg_in (List.mem_append_right _ (List.mem_append_left _ (List.mem_of_getElem? (i := 106) rfl))) rfl
set_option maxRecDepth 20000 in
theorem ml_X4_114 : Cond.methodLink RX4 114 yX0_wellOnes ∈ wg_ok := wg_in (List.mem_append_right _ (List.mem_append_left _ (List.mem_of_getElem? (i := 110) rfl))) rfl
set_option maxRecDepth 20000 in
theorem ml_X0_144 : Cond.methodLink RX0 144 yX1_isWell ∈ wg_ok := wg_in (List.mem_append_right _ (List.mem_append_left _ (List.mem_of_getElem? (i := 114) rfl))) rfl
set_option maxRecDepth 20000 in
theorem ml_X4_117 : Cond.methodLink RX4 117 yX0_decide ∈ wg_ok := wg_in (List.mem_append_right _ (List.mem_append_left _ (List.mem_of_getElem? (i := 118) rfl))) rfl
set_option maxRecDepth 20000 in
theorem ml_X4_129 : Cond.methodLink RX4 129 yX0_longestWaiting ∈ wg_ok := wg_in (List.mem_append_right _ (List.mem_append_left _ (List.mem_of_getElem? (i := 119) rfl))) rfl
set_option maxRecDepth 20000 in
theorem ml_X4_132 : Cond.methodLink RX4 132 yX0_visitsHad ∈ wg_ok := wg_in (List.mem_append_right _ (List.mem_append_left _ (List.mem_of_getElem? (i := 120) rfl))) rfl
set_option maxRecDepth 20000 in
theorem ml_L_52 : Cond.methodLink "SundayVisitsLaw" 52 yX4_ahead ∈ wg_ok := wg_in (List.mem_append_right _ (List.mem_append_left _ (List.mem_of_getElem? (i := 124) rfl))) rfl
set_option maxRecDepth 20000 in
theorem ml_X4_135 : Cond.methodLink RX4 135 yX4_beginTrial ∈ wg_ok := wg_in (List.mem_append_right _ (List.mem_append_left _ (List.mem_of_getElem? (i := 128) rfl))) rfl
set_option maxRecDepth 20000 in
theorem ml_X4_217 : Cond.methodLink RX4 217 yX0_takeAll ∈ wg_ok := wg_in (List.mem_append_right _ (List.mem_append_left _ (List.mem_of_getElem? (i := 132) rfl))) rfl
set_option maxRecDepth 20000 in
theorem ml_X0_38 : Cond.methodLink RX0 38 arraycopyName ∈ wg_ok := wg_in (List.mem_append_right _ (List.mem_append_left _ (List.mem_of_getElem? (i := 136) rfl))) rfl
set_option maxRecDepth 20000 in
theorem ml_X0_47 : Cond.methodLink RX0 47 yX1_take ∈ wg_ok := wg_in (List.mem_append_right _ (List.mem_append_left _ (List.mem_of_getElem? (i := 139) rfl))) rfl
set_option maxRecDepth 20000 in
theorem ml_L_56 : Cond.methodLink "SundayVisitsLaw" 56 yX4_glad ∈ wg_ok := wg_in (List.mem_append_right _ (List.mem_append_left _ (List.mem_of_getElem? (i := 143) rfl))) rfl
set_option maxRecDepth 20000 in
theorem ml_X4_138 : Cond.methodLink RX4 138 yX4_firstSunday ∈ wg_ok := wg_in (List.mem_append_right _ (List.mem_append_left _ (List.mem_of_getElem? (i := 147) rfl))) rfl
set_option maxRecDepth 20000 in
theorem ml_X4_273 : Cond.methodLink RX4 273 yX1_reaches ∈ wg_ok := wg_in (List.mem_append_right _ (List.mem_append_left _ (List.mem_of_getElem? (i := 151) rfl))) rfl
set_option maxRecDepth 20000 in
theorem ml_X4_150 : Cond.methodLink RX4 150 yX0_passSunday ∈ wg_ok := wg_in (List.mem_append_right _ (List.mem_append_left _ (List.mem_of_getElem? (i := 155) rfl))) rfl
set_option maxRecDepth 20000 in
theorem cn_X4_153 : Cond.constant RX4 153 (-1000004) ∈ wg_ok := wg_in (List.mem_append_right _ (List.mem_append_left _ (List.mem_of_getElem? (i := 156) rfl))) rfl
set_option maxRecDepth 20000 in
theorem ml_L_60 : Cond.methodLink "SundayVisitsLaw" 60 yX4_sad ∈ wg_ok := wg_in (List.mem_append_right _ (List.mem_append_left _ (List.mem_of_getElem? (i := 157) rfl))) rfl
set_option maxRecDepth 20000 in
theorem ml_L_64 : Cond.methodLink "SundayVisitsLaw" 64 yX4_when ∈ wg_ok := wg_in (List.mem_append_right _ (List.mem_append_left _ (List.mem_of_getElem? (i := 161) rfl))) rfl
set_option maxRecDepth 20000 in
theorem ml_L_68 : Cond.methodLink "SundayVisitsLaw" 68 yX4_well ∈ wg_ok := wg_in (List.mem_append_right _ (List.mem_append_left _ (List.mem_of_getElem? (i := 165) rfl))) rfl
set_option maxRecDepth 20000 in
theorem ml_X4_142 : Cond.methodLink RX4 142 yJ6_bitCount_0f7a4 ∈ wg_ok := wg_in (List.mem_append_right _ (List.mem_append_left _ (List.mem_of_getElem? (i := 169) rfl))) rfl
set_option maxRecDepth 20000 in
theorem ml_L_73 : Cond.methodLink "SundayVisitsLaw" 73 yX4_longFor ∈ wg_ok := wg_in (List.mem_append_right _ (List.mem_append_left _ (List.mem_of_getElem? (i := 170) rfl))) rfl
set_option maxRecDepth 20000 in
theorem ml_X4_160 : Cond.methodLink RX4 160 yX4_tryWith ∈ wg_ok := wg_in (List.mem_append_right _ (List.mem_append_left _ (List.mem_of_getElem? (i := 174) rfl))) rfl
set_option maxRecDepth 20000 in
theorem ml_L_77 : Cond.methodLink "SundayVisitsLaw" 77 yX4_chairsFor ∈ wg_ok := wg_in (List.mem_append_right _ (List.mem_append_left _ (List.mem_of_getElem? (i := 178) rfl))) rfl
set_option maxRecDepth 20000 in
theorem ml_L_81 : Cond.methodLink "SundayVisitsLaw" 81 yX4_volunteersFor ∈ wg_ok := wg_in (List.mem_append_right _ (List.mem_append_left _ (List.mem_of_getElem? (i := 182) rfl))) rfl
set_option maxRecDepth 20000 in
theorem ml_X4_164 : Cond.methodLink RX4 164 yX0_lowestMood ∈ wg_ok := wg_in (List.mem_append_right _ (List.mem_append_left _ (List.mem_of_getElem? (i := 186) rfl))) rfl
set_option maxRecDepth 20000 in
theorem ml_L_85 : Cond.methodLink "SundayVisitsLaw" 85 yX4_comeOn ∈ wg_ok := wg_in (List.mem_append_right _ (List.mem_append_left _ (List.mem_of_getElem? (i := 190) rfl))) rfl
set_option maxRecDepth 20000 in
theorem ml_X4_167 : Cond.methodLink RX4 167 yX4_bestChoice ∈ wg_ok := wg_in (List.mem_append_right _ (List.mem_append_left _ (List.mem_of_getElem? (i := 194) rfl))) rfl
set_option maxRecDepth 20000 in
theorem ml_X4_267 : Cond.methodLink RX4 267 yX4_suppose ∈ wg_ok := wg_in (List.mem_append_right _ (List.mem_append_left _ (List.mem_of_getElem? (i := 198) rfl))) rfl
set_option maxRecDepth 20000 in
theorem ml_X4_171 : Cond.methodLink RX4 171 yX4_friendOfChoice ∈ wg_ok := wg_in (List.mem_append_right _ (List.mem_append_left _ (List.mem_of_getElem? (i := 202) rfl))) rfl
set_option maxRecDepth 20000 in
theorem ml_L_89 : Cond.methodLink "SundayVisitsLaw" 89 yX4_kindFor ∈ wg_ok := wg_in (List.mem_append_right _ (List.mem_append_left _ (List.mem_of_getElem? (i := 206) rfl))) rfl
set_option maxRecDepth 20000 in
theorem ml_L_93 : Cond.methodLink "SundayVisitsLaw" 93 yX4_friendFor ∈ wg_ok := wg_in (List.mem_append_right _ (List.mem_append_left _ (List.mem_of_getElem? (i := 210) rfl))) rfl
set_option maxRecDepth 20000 in
theorem ml_L_97 : Cond.methodLink "SundayVisitsLaw" 97 yX4_away ∈ wg_ok := wg_in (List.mem_append_right _ (List.mem_append_left _ (List.mem_of_getElem? (i := 214) rfl))) rfl
set_option maxRecDepth 20000 in
theorem ml_X4_175 : Cond.methodLink RX4 175 yX4_isIn ∈ wg_ok := wg_in (List.mem_append_right _ (List.mem_append_left _ (List.mem_of_getElem? (i := 218) rfl))) rfl
set_option maxRecDepth 20000 in
theorem ml_X4_178 : Cond.methodLink RX4 178 yX0_keepAway ∈ wg_ok := wg_in (List.mem_append_right _ (List.mem_append_left _ (List.mem_of_getElem? (i := 219) rfl))) rfl
set_option maxRecDepth 20000 in
theorem ml_X4_181 : Cond.methodLink RX4 181 yX1_isWell ∈ wg_ok := wg_in (List.mem_append_right _ (List.mem_append_left _ (List.mem_of_getElem? (i := 223) rfl))) rfl
set_option maxRecDepth 20000 in
theorem ml_L_101 : Cond.methodLink "SundayVisitsLaw" 101 yX4_fits ∈ wg_ok := wg_in (List.mem_append_right _ (List.mem_append_left _ (List.mem_of_getElem? (i := 224) rfl))) rfl
set_option maxRecDepth 20000 in
theorem ml_X4_184 : Cond.methodLink RX4 184 yX4_lackFor ∈ wg_ok := wg_in (List.mem_append_right _ (List.mem_append_left _ (List.mem_of_getElem? (i := 228) rfl))) rfl
set_option maxRecDepth 20000 in
theorem ml_X4_237 : Cond.methodLink RX4 237 yX4_lackOf ∈ wg_ok := wg_in (List.mem_append_right _ (List.mem_append_left _ (List.mem_of_getElem? (i := 232) rfl))) rfl
set_option maxRecDepth 20000 in
theorem ml_X4_246 : Cond.methodLink RX4 246 yX2_isMissing ∈ wg_ok := wg_in (List.mem_append_right _ (List.mem_append_left _ (List.mem_of_getElem? (i := 236) rfl))) rfl
set_option maxRecDepth 20000 in
theorem cn_X4_224 : Cond.constant RX4 224 (-1000006) ∈ wg_ok := wg_in (List.mem_append_right _ (List.mem_append_right _ (List.mem_append_left _ (List.mem_of_getElem? (i := 0) rfl)))) rfl
set_option maxRecDepth 20000 in
theorem ml_X4_187 : Cond.methodLink RX4 187 yX4_moodFits ∈ wg_ok := wg_in (List.mem_append_right _ (List.mem_append_right _ (List.mem_append_left _ (List.mem_of_getElem? (i := 1) rfl)))) rfl
set_option maxRecDepth 20000 in
theorem ml_X4_276 : Cond.methodLink RX4 276 yX4_goesAsTold ∈ wg_ok := wg_in (List.mem_append_right _ (List.mem_append_right _ (List.mem_append_left _ (List.mem_of_getElem? (i := 5) rfl)))) rfl
set_option maxRecDepth 20000 in
theorem ml_X4_280 : Cond.methodLink RX4 280 yX1_wellSign ∈ wg_ok := wg_in (List.mem_append_right _ (List.mem_append_right _ (List.mem_append_left _ (List.mem_of_getElem? (i := 9) rfl)))) rfl
set_option maxRecDepth 20000 in
theorem ml_X1_27 : Cond.methodLink RX1 27 yX1_isWell ∈ wg_ok := wg_in (List.mem_append_right _ (List.mem_append_right _ (List.mem_append_left _ (List.mem_of_getElem? (i := 13) rfl)))) rfl
set_option maxRecDepth 20000 in
theorem ml_L_105 : Cond.methodLink "SundayVisitsLaw" 105 yX4_mood ∈ wg_ok := wg_in (List.mem_append_right _ (List.mem_append_right _ (List.mem_append_left _ (List.mem_of_getElem? (i := 14) rfl)))) rfl
set_option maxRecDepth 20000 in
theorem ml_L_109 : Cond.methodLink "SundayVisitsLaw" 109 yX4_kinds ∈ wg_ok := wg_in (List.mem_append_right _ (List.mem_append_right _ (List.mem_append_left _ (List.mem_of_getElem? (i := 18) rfl)))) rfl
set_option maxRecDepth 20000 in
theorem ml_X4_191 : Cond.methodLink RX4 191 yX4_kindFits ∈ wg_ok := wg_in (List.mem_append_right _ (List.mem_append_right _ (List.mem_append_left _ (List.mem_of_getElem? (i := 22) rfl)))) rfl
set_option maxRecDepth 20000 in
theorem ml_L_113 : Cond.methodLink "SundayVisitsLaw" 113 yX4_come ∈ wg_ok := wg_in (List.mem_append_right _ (List.mem_append_right _ (List.mem_append_left _ (List.mem_of_getElem? (i := 26) rfl)))) rfl
set_option maxRecDepth 20000 in
theorem ml_X4_194 : Cond.methodLink RX4 194 yX0_draw ∈ wg_ok := wg_in (List.mem_append_right _ (List.mem_append_right _ (List.mem_append_left _ (List.mem_of_getElem? (i := 30) rfl)))) rfl
set_option maxRecDepth 20000 in
theorem cn_X0_66 : Cond.constant RX0 66 (1103515245) ∈ wg_ok := wg_in (List.mem_append_right _ (List.mem_append_right _ (List.mem_append_left _ (List.mem_of_getElem? (i := 34) rfl)))) rfl
set_option maxRecDepth 20000 in
theorem ml_L_117 : Cond.methodLink "SundayVisitsLaw" 117 yX4_odds ∈ wg_ok := wg_in (List.mem_append_right _ (List.mem_append_right _ (List.mem_append_left _ (List.mem_of_getElem? (i := 35) rfl)))) rfl
set_option maxRecDepth 20000 in
theorem ml_X4_197 : Cond.methodLink RX4 197 yX0_seated ∈ wg_ok := wg_in (List.mem_append_right _ (List.mem_append_right _ (List.mem_append_left _ (List.mem_of_getElem? (i := 39) rfl)))) rfl
set_option maxRecDepth 20000 in
theorem ml_X4_200 : Cond.methodLink RX4 200 yX4_power ∈ wg_ok := wg_in (List.mem_append_right _ (List.mem_append_right _ (List.mem_append_left _ (List.mem_of_getElem? (i := 40) rfl)))) rfl
set_option maxRecDepth 20000 in
theorem ml_L_122 : Cond.methodLink "SundayVisitsLaw" 122 yX4_seed ∈ wg_ok := wg_in (List.mem_append_right _ (List.mem_append_right _ (List.mem_append_left _ (List.mem_of_getElem? (i := 43) rfl)))) rfl
set_option maxRecDepth 20000 in
theorem ml_L_126 : Cond.methodLink "SundayVisitsLaw" 126 yX4_feed ∈ wg_ok := wg_in (List.mem_append_right _ (List.mem_append_right _ (List.mem_append_left _ (List.mem_of_getElem? (i := 47) rfl)))) rfl
set_option maxRecDepth 20000 in
theorem ml_X4_210 : Cond.methodLink RX4 210 yX3_append ∈ wg_ok := wg_in (List.mem_append_right _ (List.mem_append_right _ (List.mem_append_left _ (List.mem_of_getElem? (i := 51) rfl)))) rfl
set_option maxRecDepth 20000 in
theorem ml_L_130 : Cond.methodLink "SundayVisitsLaw" 130 yX4_wipe ∈ wg_ok := wg_in (List.mem_append_right _ (List.mem_append_right _ (List.mem_append_left _ (List.mem_of_getElem? (i := 55) rfl)))) rfl
set_option maxRecDepth 20000 in
theorem ml_L_134 : Cond.methodLink "SundayVisitsLaw" 134 yX4_text ∈ wg_ok := wg_in (List.mem_append_right _ (List.mem_append_right _ (List.mem_append_left _ (List.mem_of_getElem? (i := 59) rfl)))) rfl
set_option maxRecDepth 20000 in
theorem ml_X4_213 : Cond.methodLink RX4 213 yX3_readInto ∈ wg_ok := wg_in (List.mem_append_right _ (List.mem_append_right _ (List.mem_append_left _ (List.mem_of_getElem? (i := 63) rfl)))) rfl
set_option maxRecDepth 20000 in
theorem ml_X3_22 : Cond.methodLink RX3 22 yX3_step ∈ wg_ok := wg_in (List.mem_append_right _ (List.mem_append_right _ (List.mem_append_left _ (List.mem_of_getElem? (i := 67) rfl)))) rfl
set_option maxRecDepth 20000 in
theorem ml_X3_103 : Cond.methodLink RX3 103 yX3_tokenOf ∈ wg_ok := wg_in (List.mem_append_right _ (List.mem_append_right _ (List.mem_append_left _ (List.mem_of_getElem? (i := 71) rfl)))) rfl
set_option maxRecDepth 20000 in
theorem ml_X3_106 : Cond.methodLink RX3 106 Lib.Math.min.name ∈ wg_ok := wg_in (List.mem_append_right _ (List.mem_append_right _ (List.mem_append_left _ (List.mem_of_getElem? (i := 74) rfl)))) rfl
set_option maxRecDepth 20000 in
theorem ml_X3_25 : Cond.methodLink RX3 25 yX3_readItem ∈ wg_ok := wg_in (List.mem_append_right _ (List.mem_append_right _ (List.mem_append_left _ (List.mem_of_getElem? (i := 75) rfl)))) rfl
set_option maxRecDepth 20000 in
theorem ml_X3_35 : Cond.methodLink RX3 35 yX3_kindWord ∈ wg_ok := wg_in (List.mem_append_right _ (List.mem_append_right _ (List.mem_append_left _ (List.mem_of_getElem? (i := 79) rfl)))) rfl
set_option maxRecDepth 20000 in
theorem ml_X3_39 : Cond.methodLink RX3 39 yX3_isWord ∈ wg_ok := wg_in (List.mem_append_right _ (List.mem_append_right _ (List.mem_append_left _ (List.mem_of_getElem? (i := 89) rfl)))) rfl
set_option maxRecDepth 20000 in
theorem ml_X3_112 : Cond.methodLink RX3 112 yJ0_length_8abf5 ∈ wg_ok := wg_in (List.mem_append_right _ (List.mem_append_right _ (List.mem_append_left _ (List.mem_of_getElem? (i := 93) rfl)))) rfl
set_option maxRecDepth 20000 in
theorem ml_J0_335 : Cond.methodLink RJ0 335 yJ0_coder_7d493 ∈ wg_ok := wg_in (List.mem_append_right _ (List.mem_append_right _ (List.mem_append_left _ (List.mem_of_getElem? (i := 97) rfl)))) rfl
set_option maxRecDepth 20000 in
theorem fl_J0_38 : Cond.fieldLink RJ0 38 "java/lang/String" "COMPACT_STRINGS" "Z" ∈ wg_ok := wg_in (List.mem_append_right _ (List.mem_append_right _ (List.mem_append_left _ (List.mem_of_getElem? (i := 101) rfl)))) rfl
set_option maxRecDepth 20000 in
theorem ml_X3_117 : Cond.methodLink RX3 117 yJ0_charAt_5068e ∈ wg_ok := wg_in (List.mem_append_right _ (List.mem_append_right _ (List.mem_append_left _ (List.mem_of_getElem? (i := 103) rfl)))) rfl
set_option maxRecDepth 20000 in
theorem ml_J0_492 : Cond.methodLink RJ0 492 yJ0_isLatin1_aae02 ∈ wg_ok := wg_in (List.mem_append_right _ (List.mem_append_right _ (List.mem_append_left _ (List.mem_of_getElem? (i := 107) rfl)))) rfl
set_option maxRecDepth 20000 in
theorem ml_J0_495 : Cond.methodLink RJ0 495 yJ1_charAt_3b067 ∈ wg_ok := wg_in (List.mem_append_right _ (List.mem_append_right _ (List.mem_append_left _ (List.mem_of_getElem? (i := 111) rfl)))) rfl
set_option maxRecDepth 20000 in
theorem ml_J1_9 : Cond.methodLink RJ1 9 yJ0_checkIndex_df160 ∈ wg_ok := wg_in (List.mem_append_right _ (List.mem_append_right _ (List.mem_append_left _ (List.mem_of_getElem? (i := 114) rfl)))) rfl
set_option maxRecDepth 20000 in
theorem fl_J0_1053 : Cond.fieldLink RJ0 1053 "jdk/internal/util/Preconditions" "SIOOBE_FORMATTER" "Ljava/util/function/BiFunction;" ∈ wg_ok := wg_in (List.mem_append_right _ (List.mem_append_right _ (List.mem_append_left _ (List.mem_of_getElem? (i := 117) rfl)))) rfl
set_option maxRecDepth 20000 in
theorem ml_J0_1059 : Cond.methodLink RJ0 1059 yJ3_checkIndex_8e157 ∈ wg_ok := wg_in (List.mem_append_right _ (List.mem_append_right _ (List.mem_append_left _ (List.mem_of_getElem? (i := 119) rfl)))) rfl
set_option maxRecDepth 20000 in
theorem ml_J0_498 : Cond.methodLink RJ0 498 yJ2_charAt_3b067 ∈ wg_ok := wg_in (List.mem_append_right _ (List.mem_append_right _ (List.mem_append_left _ (List.mem_of_getElem? (i := 122) rfl)))) rfl
set_option maxRecDepth 20000 in
theorem ml_J2_67 : Cond.methodLink RJ2 67 yJ2_checkIndex_2214a ∈ wg_ok := wg_in (List.mem_append_right _ (List.mem_append_right _ (List.mem_append_left _ (List.mem_of_getElem? (i := 125) rfl)))) rfl
set_option maxRecDepth 20000 in
theorem ml_J2_48 : Cond.methodLink RJ2 48 yJ2_length_9d52b ∈ wg_ok := wg_in (List.mem_append_right _ (List.mem_append_right _ (List.mem_append_left _ (List.mem_of_getElem? (i := 128) rfl)))) rfl
set_option maxRecDepth 20000 in
theorem ml_J2_414 : Cond.methodLink RJ2 414 yJ0_checkIndex_df160 ∈ wg_ok := wg_in (List.mem_append_right _ (List.mem_append_right _ (List.mem_append_left _ (List.mem_of_getElem? (i := 131) rfl)))) rfl
set_option maxRecDepth 20000 in
theorem ml_J2_71 : Cond.methodLink RJ2 71 yJ2_getChar_3b067 ∈ wg_ok := wg_in (List.mem_append_right _ (List.mem_append_right _ (List.mem_append_left _ (List.mem_of_getElem? (i := 132) rfl)))) rfl
set_option maxRecDepth 20000 in
theorem fl_J2_44 : Cond.fieldLink RJ2 44 "java/lang/StringUTF16" "$assertionsDisabled" "Z" ∈ wg_ok := wg_in (List.mem_append_right _ (List.mem_append_right _ (List.mem_append_left _ (List.mem_of_getElem? (i := 135) rfl)))) rfl
set_option maxRecDepth 20000 in
theorem fl_J2_59 : Cond.fieldLink RJ2 59 "java/lang/StringUTF16" "HI_BYTE_SHIFT" "I" ∈ wg_ok := wg_in (List.mem_append_right _ (List.mem_append_right _ (List.mem_append_left _ (List.mem_of_getElem? (i := 137) rfl)))) rfl
set_option maxRecDepth 20000 in
theorem fl_J2_63 : Cond.fieldLink RJ2 63 "java/lang/StringUTF16" "LO_BYTE_SHIFT" "I" ∈ wg_ok := wg_in (List.mem_append_right _ (List.mem_append_right _ (List.mem_append_left _ (List.mem_of_getElem? (i := 139) rfl)))) rfl
set_option maxRecDepth 20000 in
theorem ml_X3_43 : Cond.methodLink RX3 43 yX3_readResident ∈ wg_ok := wg_in (List.mem_append_right _ (List.mem_append_right _ (List.mem_append_left _ (List.mem_of_getElem? (i := 141) rfl)))) rfl
set_option maxRecDepth 20000 in
theorem ml_X3_58 : Cond.methodLink RX3 58 yX0_welcome ∈ wg_ok := wg_in (List.mem_append_right _ (List.mem_append_right _ (List.mem_append_left _ (List.mem_of_getElem? (i := 145) rfl)))) rfl
set_option maxRecDepth 20000 in
theorem ml_X3_70 : Cond.methodLink RX3 70 yX3_readFact ∈ wg_ok := wg_in (List.mem_append_right _ (List.mem_append_right _ (List.mem_append_left _ (List.mem_of_getElem? (i := 147) rfl)))) rfl
set_option maxRecDepth 20000 in
theorem ml_X3_78 : Cond.methodLink RX3 78 yX3_isNumber ∈ wg_ok := wg_in (List.mem_append_right _ (List.mem_append_right _ (List.mem_append_left _ (List.mem_of_getElem? (i := 151) rfl)))) rfl
set_option maxRecDepth 20000 in
theorem ml_X3_85 : Cond.methodLink RX3 85 yX1_become ∈ wg_ok := wg_in (List.mem_append_right _ (List.mem_append_right _ (List.mem_append_left _ (List.mem_of_getElem? (i := 156) rfl)))) rfl
set_option maxRecDepth 20000 in
theorem ml_X3_47 : Cond.methodLink RX3 47 yX3_settingWord ∈ wg_ok := wg_in (List.mem_append_right _ (List.mem_append_right _ (List.mem_append_left _ (List.mem_of_getElem? (i := 159) rfl)))) rfl
set_option maxRecDepth 20000 in
theorem ml_X3_50 : Cond.methodLink RX3 50 yX3_readSetting ∈ wg_ok := wg_in (List.mem_append_right _ (List.mem_append_right _ (List.mem_append_left _ (List.mem_of_getElem? (i := 166) rfl)))) rfl
set_option maxRecDepth 20000 in
theorem ml_X3_55 : Cond.methodLink RX3 55 yX3_readVisits ∈ wg_ok := wg_in (List.mem_append_right _ (List.mem_append_right _ (List.mem_append_left _ (List.mem_of_getElem? (i := 173) rfl)))) rfl
set_option maxRecDepth 20000 in
theorem ml_L_138 : Cond.methodLink "SundayVisitsLaw" 138 yX4_hold ∈ wg_ok := wg_in (List.mem_append_right _ (List.mem_append_right _ (List.mem_append_left _ (List.mem_of_getElem? (i := 178) rfl)))) rfl
set_option maxRecDepth 20000 in
theorem ml_L_142 : Cond.methodLink "SundayVisitsLaw" 142 yX4_as ∈ wg_ok := wg_in (List.mem_append_right _ (List.mem_append_right _ (List.mem_append_left _ (List.mem_of_getElem? (i := 182) rfl)))) rfl
set_option maxRecDepth 20000 in
theorem ml_X4_228 : Cond.methodLink RX4 228 yX4_isUnder ∈ wg_ok := wg_in (List.mem_append_right _ (List.mem_append_right _ (List.mem_append_left _ (List.mem_of_getElem? (i := 186) rfl)))) rfl
set_option maxRecDepth 20000 in
theorem ml_X4_283 : Cond.methodLink RX4 283 yX4_kindAbove ∈ wg_ok := wg_in (List.mem_append_right _ (List.mem_append_right _ (List.mem_append_left _ (List.mem_of_getElem? (i := 189) rfl)))) rfl
set_option maxRecDepth 20000 in
theorem cn_X4_231 : Cond.constant RX4 231 (-1000003) ∈ wg_ok := wg_in (List.mem_append_right _ (List.mem_append_right _ (List.mem_append_left _ (List.mem_of_getElem? (i := 192) rfl)))) rfl
set_option maxRecDepth 20000 in
theorem ml_L_146 : Cond.methodLink "SundayVisitsLaw" 146 yX4_sheet ∈ wg_ok := wg_in (List.mem_append_right _ (List.mem_append_right _ (List.mem_append_left _ (List.mem_of_getElem? (i := 193) rfl)))) rfl
set_option maxRecDepth 20000 in
theorem cn_X4_232 : Cond.constant RX4 232 (-1000007) ∈ wg_ok := wg_in (List.mem_append_right _ (List.mem_append_right _ (List.mem_append_left _ (List.mem_of_getElem? (i := 197) rfl)))) rfl
set_option maxRecDepth 20000 in
theorem ml_X4_233 : Cond.methodLink RX4 233 yX2_renew ∈ wg_ok := wg_in (List.mem_append_right _ (List.mem_append_right _ (List.mem_append_left _ (List.mem_of_getElem? (i := 198) rfl)))) rfl
set_option maxRecDepth 20000 in
theorem ml_X2_22 : Cond.methodLink RX2 22 yJ7_fill_53178 ∈ wg_ok := wg_in (List.mem_append_right _ (List.mem_append_right _ (List.mem_append_left _ (List.mem_of_getElem? (i := 202) rfl)))) rfl
set_option maxRecDepth 20000 in
theorem ml_L_150 : Cond.methodLink "SundayVisitsLaw" 150 yX4_write ∈ wg_ok := wg_in (List.mem_append_right _ (List.mem_append_right _ (List.mem_append_left _ (List.mem_of_getElem? (i := 203) rfl)))) rfl
set_option maxRecDepth 20000 in
theorem ml_X4_243 : Cond.methodLink RX4 243 yX2_cut ∈ wg_ok := wg_in (List.mem_append_right _ (List.mem_append_right _ (List.mem_append_left _ (List.mem_of_getElem? (i := 207) rfl)))) rfl
set_option maxRecDepth 20000 in
theorem ml_L_154 : Cond.methodLink "SundayVisitsLaw" 154 yX4_copy ∈ wg_ok := wg_in (List.mem_append_right _ (List.mem_append_right _ (List.mem_append_left _ (List.mem_of_getElem? (i := 211) rfl)))) rfl
set_option maxRecDepth 20000 in
theorem ml_X4_252 : Cond.methodLink RX4 252 yX2_hasRun ∈ wg_ok := wg_in (List.mem_append_right _ (List.mem_append_right _ (List.mem_append_left _ (List.mem_of_getElem? (i := 215) rfl)))) rfl
set_option maxRecDepth 20000 in
theorem ml_X4_255 : Cond.methodLink RX4 255 arraycopyName ∈ wg_ok := wg_in (List.mem_append_right _ (List.mem_append_right _ (List.mem_append_left _ (List.mem_of_getElem? (i := 219) rfl)))) rfl
set_option maxRecDepth 20000 in
theorem ml_L_159 : Cond.methodLink "SundayVisitsLaw" 159 yX4_load ∈ wg_ok := wg_in (List.mem_append_right _ (List.mem_append_right _ (List.mem_append_left _ (List.mem_of_getElem? (i := 220) rfl)))) rfl
set_option maxRecDepth 20000 in
theorem ml_L_163 : Cond.methodLink "SundayVisitsLaw" 163 yX4_judge ∈ wg_ok := wg_in (List.mem_append_right _ (List.mem_append_right _ (List.mem_append_left _ (List.mem_of_getElem? (i := 224) rfl)))) rfl
set_option maxRecDepth 20000 in
theorem ml_L_167 : Cond.methodLink "SundayVisitsLaw" 167 yX4_image ∈ wg_ok := wg_in (List.mem_append_right _ (List.mem_append_right _ (List.mem_append_left _ (List.mem_of_getElem? (i := 228) rfl)))) rfl
set_option maxRecDepth 20000 in
theorem ml_L_171 : Cond.methodLink "SundayVisitsLaw" 171 yX4_undo ∈ wg_ok := wg_in (List.mem_append_right _ (List.mem_append_right _ (List.mem_append_left _ (List.mem_of_getElem? (i := 232) rfl)))) rfl
set_option maxRecDepth 20000 in
theorem ml_L_175 : Cond.methodLink "SundayVisitsLaw" 175 yX4_tear ∈ wg_ok := wg_in (List.mem_append_right _ (List.mem_append_right _ (List.mem_append_left _ (List.mem_of_getElem? (i := 236) rfl)))) rfl
set_option maxRecDepth 20000 in
theorem ml_L_179 : Cond.methodLink "SundayVisitsLaw" 179 yX4_count ∈ wg_ok := wg_in (List.mem_append_right _ (List.mem_append_right _ (List.mem_append_right _ (List.mem_append_left _ (List.mem_of_getElem? (i := 0) rfl))))) rfl
set_option maxRecDepth 20000 in
theorem ml_X4_264 : Cond.methodLink RX4 264 yX0_heldSpots ∈ wg_ok := wg_in (List.mem_append_right _ (List.mem_append_right _ (List.mem_append_right _ (List.mem_append_left _ (List.mem_of_getElem? (i := 4) rfl))))) rfl
set_option maxRecDepth 20000 in
theorem ml_L_183 : Cond.methodLink "SundayVisitsLaw" 183 yX4_status ∈ wg_ok := wg_in (List.mem_append_right _ (List.mem_append_right _ (List.mem_append_right _ (List.mem_append_left _ (List.mem_of_getElem? (i := 8) rfl))))) rfl
set_option maxRecDepth 20000 in
theorem ml_L_12 : Cond.methodLink "SundayVisitsLaw" 12 yX5_init ∈ wg_ok := wg_in (List.mem_append_right _ (List.mem_append_right _ (List.mem_append_right _ (List.mem_append_left _ (List.mem_of_getElem? (i := 14) rfl))))) rfl
set_option maxRecDepth 20000 in
theorem ml_X5_1 : Cond.methodLink RX5 1 Lib.objectInit ∈ wg_ok := wg_in (List.mem_append_right _ (List.mem_append_right _ (List.mem_append_right _ (List.mem_append_left _ (List.mem_of_getElem? (i := 17) rfl))))) rfl
set_option maxRecDepth 20000 in
theorem fl_X5_7 : Cond.fieldLink RX5 7 "SundayVisitsModel" "d" "[I" ∈ wg_ok := wg_in (List.mem_append_right _ (List.mem_append_right _ (List.mem_append_right _ (List.mem_append_left _ (List.mem_of_getElem? (i := 18) rfl))))) rfl
set_option maxRecDepth 20000 in
theorem fl_X5_13 : Cond.fieldLink RX5 13 "SundayVisitsModel" "e" "[I" ∈ wg_ok := wg_in (List.mem_append_right _ (List.mem_append_right _ (List.mem_append_right _ (List.mem_append_left _ (List.mem_of_getElem? (i := 19) rfl))))) rfl
set_option maxRecDepth 20000 in
theorem fl_X5_16 : Cond.fieldLink RX5 16 "SundayVisitsModel" "aside" "[I" ∈ wg_ok := wg_in (List.mem_append_right _ (List.mem_append_right _ (List.mem_append_right _ (List.mem_append_left _ (List.mem_of_getElem? (i := 20) rfl))))) rfl
set_option maxRecDepth 20000 in
theorem fl_X5_19 : Cond.fieldLink RX5 19 "SundayVisitsModel" "kept" "[I" ∈ wg_ok := wg_in (List.mem_append_right _ (List.mem_append_right _ (List.mem_append_right _ (List.mem_append_left _ (List.mem_of_getElem? (i := 21) rfl))))) rfl
set_option maxRecDepth 20000 in
theorem fl_X5_299 : Cond.fieldLink RX5 299 "SundayVisitsModel" "isKept" "Z" ∈ wg_ok := wg_in (List.mem_append_right _ (List.mem_append_right _ (List.mem_append_right _ (List.mem_append_left _ (List.mem_of_getElem? (i := 22) rfl))))) rfl
set_option maxRecDepth 20000 in
theorem fl_X5_22 : Cond.fieldLink RX5 22 "SundayVisitsModel" "found" "[I" ∈ wg_ok := wg_in (List.mem_append_right _ (List.mem_append_right _ (List.mem_append_right _ (List.mem_append_left _ (List.mem_of_getElem? (i := 23) rfl))))) rfl
set_option maxRecDepth 20000 in
theorem fl_X5_25 : Cond.fieldLink RX5 25 "SundayVisitsModel" "tape" "[B" ∈ wg_ok := wg_in (List.mem_append_right _ (List.mem_append_right _ (List.mem_append_right _ (List.mem_append_left _ (List.mem_of_getElem? (i := 24) rfl))))) rfl
set_option maxRecDepth 20000 in
theorem fl_X5_189 : Cond.fieldLink RX5 189 "SundayVisitsModel" "taped" "I" ∈ wg_ok := wg_in (List.mem_append_right _ (List.mem_append_right _ (List.mem_append_right _ (List.mem_append_left _ (List.mem_of_getElem? (i := 25) rfl))))) rfl
set_option maxRecDepth 20000 in
theorem fl_X5_193 : Cond.fieldLink RX5 193 "SundayVisitsModel" "at" "I" ∈ wg_ok := wg_in (List.mem_append_right _ (List.mem_append_right _ (List.mem_append_right _ (List.mem_append_left _ (List.mem_of_getElem? (i := 26) rfl))))) rfl
set_option maxRecDepth 20000 in
theorem fl_X5_206 : Cond.fieldLink RX5 206 "SundayVisitsModel" "sort" "I" ∈ wg_ok := wg_in (List.mem_append_right _ (List.mem_append_right _ (List.mem_append_right _ (List.mem_append_left _ (List.mem_of_getElem? (i := 27) rfl))))) rfl
set_option maxRecDepth 20000 in
theorem fl_X5_199 : Cond.fieldLink RX5 199 "SundayVisitsModel" "from" "I" ∈ wg_ok := wg_in (List.mem_append_right _ (List.mem_append_right _ (List.mem_append_right _ (List.mem_append_left _ (List.mem_of_getElem? (i := 28) rfl))))) rfl
set_option maxRecDepth 20000 in
theorem fl_X5_202 : Cond.fieldLink RX5 202 "SundayVisitsModel" "value" "J" ∈ wg_ok := wg_in (List.mem_append_right _ (List.mem_append_right _ (List.mem_append_right _ (List.mem_append_left _ (List.mem_of_getElem? (i := 29) rfl))))) rfl
set_option maxRecDepth 20000 in
theorem fl_X5_223 : Cond.fieldLink RX5 223 "SundayVisitsModel" "fault" "I" ∈ wg_ok := wg_in (List.mem_append_right _ (List.mem_append_right _ (List.mem_append_right _ (List.mem_append_left _ (List.mem_of_getElem? (i := 30) rfl))))) rfl
set_option maxRecDepth 20000 in
theorem fl_X5_29 : Cond.fieldLink RX5 29 "SundayVisitsModel" "bitsOf" "[I" ∈ wg_ok := wg_in (List.mem_append_right _ (List.mem_append_right _ (List.mem_append_right _ (List.mem_append_left _ (List.mem_of_getElem? (i := 31) rfl))))) rfl
set_option maxRecDepth 20000 in
theorem fl_X5_32 : Cond.fieldLink RX5 32 "SundayVisitsModel" "sizeOf" "[I" ∈ wg_ok := wg_in (List.mem_append_right _ (List.mem_append_right _ (List.mem_append_right _ (List.mem_append_left _ (List.mem_of_getElem? (i := 32) rfl))))) rfl
set_option maxRecDepth 20000 in
theorem fl_X5_35 : Cond.fieldLink RX5 35 "SundayVisitsModel" "number" "[I" ∈ wg_ok := wg_in (List.mem_append_right _ (List.mem_append_right _ (List.mem_append_right _ (List.mem_append_left _ (List.mem_of_getElem? (i := 33) rfl))))) rfl
set_option maxRecDepth 20000 in
theorem fl_X5_38 : Cond.fieldLink RX5 38 "SundayVisitsModel" "passing" "[I" ∈ wg_ok := wg_in (List.mem_append_right _ (List.mem_append_right _ (List.mem_append_right _ (List.mem_append_left _ (List.mem_of_getElem? (i := 34) rfl))))) rfl
set_option maxRecDepth 20000 in
theorem ml_L_17 : Cond.methodLink "SundayVisitsLaw" 17 yX5_set ∈ wg_ok := wg_in (List.mem_append_right _ (List.mem_append_right _ (List.mem_append_right _ (List.mem_append_left _ (List.mem_of_getElem? (i := 70) rfl))))) rfl
set_option maxRecDepth 20000 in
theorem ml_X5_101 : Cond.methodLink RX5 101 yX5_isSet ∈ wg_ok := wg_in (List.mem_append_right _ (List.mem_append_right _ (List.mem_append_right _ (List.mem_append_left _ (List.mem_of_getElem? (i := 74) rfl))))) rfl
set_option maxRecDepth 20000 in
theorem cn_X5_95 : Cond.constantLong RX5 95 (20) ∈ wg_ok := wg_in (List.mem_append_right _ (List.mem_append_right _ (List.mem_append_right _ (List.mem_append_left _ (List.mem_of_getElem? (i := 77) rfl))))) rfl
set_option maxRecDepth 20000 in
theorem ml_X5_42 : Cond.methodLink RX5 42 yX5_in ∈ wg_ok := wg_in (List.mem_append_right _ (List.mem_append_right _ (List.mem_append_right _ (List.mem_append_left _ (List.mem_of_getElem? (i := 78) rfl))))) rfl
set_option maxRecDepth 20000 in
theorem cn_X5_97 : Cond.constantLong RX5 97 (8) ∈ wg_ok := wg_in (List.mem_append_right _ (List.mem_append_right _ (List.mem_append_right _ (List.mem_append_left _ (List.mem_of_getElem? (i := 81) rfl))))) rfl
set_option maxRecDepth 20000 in
theorem cn_X5_99 : Cond.constantLong RX5 99 (12) ∈ wg_ok := wg_in (List.mem_append_right _ (List.mem_append_right _ (List.mem_append_right _ (List.mem_append_left _ (List.mem_of_getElem? (i := 82) rfl))))) rfl
set_option maxRecDepth 20000 in
theorem ml_X5_105 : Cond.methodLink RX5 105 yX5_becomes ∈ wg_ok := wg_in (List.mem_append_right _ (List.mem_append_right _ (List.mem_append_right _ (List.mem_append_left _ (List.mem_of_getElem? (i := 83) rfl))))) rfl
set_option maxRecDepth 20000 in
theorem ml_X5_108 : Cond.methodLink RX5 108 yX5_finds ∈ wg_ok := wg_in (List.mem_append_right _ (List.mem_append_right _ (List.mem_append_right _ (List.mem_append_left _ (List.mem_of_getElem? (i := 87) rfl))))) rfl
set_option maxRecDepth 20000 in
theorem cn_X5_41 : Cond.constant RX5 41 (-1000001) ∈ wg_ok := wg_in (List.mem_append_right _ (List.mem_append_right _ (List.mem_append_right _ (List.mem_append_left _ (List.mem_of_getElem? (i := 91) rfl))))) rfl
set_option maxRecDepth 20000 in
theorem ml_L_22 : Cond.methodLink "SundayVisitsLaw" 22 yX5_home ∈ wg_ok := wg_in (List.mem_append_right _ (List.mem_append_right _ (List.mem_append_right _ (List.mem_append_left _ (List.mem_of_getElem? (i := 92) rfl))))) rfl
set_option maxRecDepth 20000 in
theorem cn_X5_111 : Cond.constantLong RX5 111 (3) ∈ wg_ok := wg_in (List.mem_append_right _ (List.mem_append_right _ (List.mem_append_right _ (List.mem_append_left _ (List.mem_of_getElem? (i := 96) rfl))))) rfl
set_option maxRecDepth 20000 in
theorem ml_L_26 : Cond.methodLink "SundayVisitsLaw" 26 yX5_visit ∈ wg_ok := wg_in (List.mem_append_right _ (List.mem_append_right _ (List.mem_append_right _ (List.mem_append_left _ (List.mem_of_getElem? (i := 97) rfl))))) rfl
set_option maxRecDepth 20000 in
theorem ml_X5_115 : Cond.methodLink RX5 115 yX5_isPlace ∈ wg_ok := wg_in (List.mem_append_right _ (List.mem_append_right _ (List.mem_append_right _ (List.mem_append_left _ (List.mem_of_getElem? (i := 101) rfl))))) rfl
set_option maxRecDepth 20000 in
theorem cn_X5_113 : Cond.constantLong RX5 113 (5) ∈ wg_ok := wg_in (List.mem_append_right _ (List.mem_append_right _ (List.mem_append_right _ (List.mem_append_left _ (List.mem_of_getElem? (i := 104) rfl))))) rfl
set_option maxRecDepth 20000 in
theorem cn_X5_118 : Cond.constantLong RX5 118 (255) ∈ wg_ok := wg_in (List.mem_append_right _ (List.mem_append_right _ (List.mem_append_right _ (List.mem_append_left _ (List.mem_of_getElem? (i := 105) rfl))))) rfl
set_option maxRecDepth 20000 in
theorem ml_L_30 : Cond.methodLink "SundayVisitsLaw" 30 yX5_visits ∈ wg_ok := wg_in (List.mem_append_right _ (List.mem_append_right _ (List.mem_append_right _ (List.mem_append_left _ (List.mem_of_getElem? (i := 106) rfl))))) rfl
set_option maxRecDepth 20000 in
theorem ml_L_34 : Cond.methodLink "SundayVisitsLaw" 34 yX5_resident ∈ wg_ok := wg_in (List.mem_append_right _ (List.mem_append_right _ (List.mem_append_right _ (List.mem_append_left _ (List.mem_of_getElem? (i := 110) rfl))))) rfl
set_option maxRecDepth 20000 in
theorem cn_X5_120 : Cond.constantLong RX5 120 (6) ∈ wg_ok := wg_in (List.mem_append_right _ (List.mem_append_right _ (List.mem_append_right _ (List.mem_append_left _ (List.mem_of_getElem? (i := 114) rfl))))) rfl
set_option maxRecDepth 20000 in
theorem ml_X5_122 : Cond.methodLink RX5 122 yX5_comes ∈ wg_ok := wg_in (List.mem_append_right _ (List.mem_append_right _ (List.mem_append_right _ (List.mem_append_left _ (List.mem_of_getElem? (i := 115) rfl))))) rfl
set_option maxRecDepth 20000 in
theorem ml_X5_87 : Cond.methodLink RX5 87 yX5_sets ∈ wg_ok := wg_in (List.mem_append_right _ (List.mem_append_right _ (List.mem_append_right _ (List.mem_append_left _ (List.mem_of_getElem? (i := 119) rfl))))) rfl
set_option maxRecDepth 20000 in
theorem ml_L_38 : Cond.methodLink "SundayVisitsLaw" 38 yX5_of ∈ wg_ok := wg_in (List.mem_append_right _ (List.mem_append_right _ (List.mem_append_right _ (List.mem_append_left _ (List.mem_of_getElem? (i := 123) rfl))))) rfl
set_option maxRecDepth 20000 in
theorem ml_X5_125 : Cond.methodLink RX5 125 yX5_isResident ∈ wg_ok := wg_in (List.mem_append_right _ (List.mem_append_right _ (List.mem_append_right _ (List.mem_append_left _ (List.mem_of_getElem? (i := 127) rfl))))) rfl
set_option maxRecDepth 20000 in
theorem ml_X5_54 : Cond.methodLink RX5 54 yX5_seats ∈ wg_ok := wg_in (List.mem_append_right _ (List.mem_append_right _ (List.mem_append_right _ (List.mem_append_left _ (List.mem_of_getElem? (i := 131) rfl))))) rfl
set_option maxRecDepth 20000 in
theorem ml_X5_46 : Cond.methodLink RX5 46 yX5_its ∈ wg_ok := wg_in (List.mem_append_right _ (List.mem_append_right _ (List.mem_append_right _ (List.mem_append_left _ (List.mem_of_getElem? (i := 135) rfl))))) rfl
set_option maxRecDepth 20000 in
theorem ml_X5_84 : Cond.methodLink RX5 84 yX5_gains ∈ wg_ok := wg_in (List.mem_append_right _ (List.mem_append_right _ (List.mem_append_right _ (List.mem_append_left _ (List.mem_of_getElem? (i := 139) rfl))))) rfl
set_option maxRecDepth 20000 in
theorem ml_X5_50 : Cond.methodLink RX5 50 yX5_held ∈ wg_ok := wg_in (List.mem_append_right _ (List.mem_append_right _ (List.mem_append_right _ (List.mem_append_left _ (List.mem_of_getElem? (i := 143) rfl))))) rfl
set_option maxRecDepth 20000 in
theorem ml_X5_81 : Cond.methodLink RX5 81 yX5_loses ∈ wg_ok := wg_in (List.mem_append_right _ (List.mem_append_right _ (List.mem_append_right _ (List.mem_append_left _ (List.mem_of_getElem? (i := 146) rfl))))) rfl
set_option maxRecDepth 20000 in
theorem ml_X5_58 : Cond.methodLink RX5 58 yX5_shares ∈ wg_ok := wg_in (List.mem_append_right _ (List.mem_append_right _ (List.mem_append_right _ (List.mem_append_left _ (List.mem_of_getElem? (i := 150) rfl))))) rfl
set_option maxRecDepth 20000 in
theorem ml_L_43 : Cond.methodLink "SundayVisitsLaw" 43 yX5_change ∈ wg_ok := wg_in (List.mem_append_right _ (List.mem_append_right _ (List.mem_append_right _ (List.mem_append_left _ (List.mem_of_getElem? (i := 154) rfl))))) rfl
set_option maxRecDepth 20000 in
theorem cn_X5_134 : Cond.constantLong RX5 134 (4) ∈ wg_ok := wg_in (List.mem_append_right _ (List.mem_append_right _ (List.mem_append_right _ (List.mem_append_left _ (List.mem_of_getElem? (i := 158) rfl))))) rfl
set_option maxRecDepth 20000 in
theorem ml_X5_136 : Cond.methodLink RX5 136 yX5_isIts ∈ wg_ok := wg_in (List.mem_append_right _ (List.mem_append_right _ (List.mem_append_right _ (List.mem_append_left _ (List.mem_of_getElem? (i := 159) rfl))))) rfl
set_option maxRecDepth 20000 in
theorem cn_X5_128 : Cond.constantLong RX5 128 (99) ∈ wg_ok := wg_in (List.mem_append_right _ (List.mem_append_right _ (List.mem_append_right _ (List.mem_append_left _ (List.mem_of_getElem? (i := 163) rfl))))) rfl
set_option maxRecDepth 20000 in
theorem cn_X5_130 : Cond.constantLong RX5 130 (-1) ∈ wg_ok := wg_in (List.mem_append_right _ (List.mem_append_right _ (List.mem_append_right _ (List.mem_append_left _ (List.mem_of_getElem? (i := 164) rfl))))) rfl
set_option maxRecDepth 20000 in
theorem cn_X5_132 : Cond.constantLong RX5 132 (9999) ∈ wg_ok := wg_in (List.mem_append_right _ (List.mem_append_right _ (List.mem_append_right _ (List.mem_append_left _ (List.mem_of_getElem? (i := 165) rfl))))) rfl
set_option maxRecDepth 20000 in
theorem ml_L_47 : Cond.methodLink "SundayVisitsLaw" 47 yX5_go ∈ wg_ok := wg_in (List.mem_append_right _ (List.mem_append_right _ (List.mem_append_right _ (List.mem_append_left _ (List.mem_of_getElem? (i := 166) rfl))))) rfl
set_option maxRecDepth 20000 in
theorem cn_X5_140 : Cond.constantLong RX5 140 (60) ∈ wg_ok := wg_in (List.mem_append_right _ (List.mem_append_right _ (List.mem_append_right _ (List.mem_append_left _ (List.mem_of_getElem? (i := 170) rfl))))) rfl
set_option maxRecDepth 20000 in
theorem cn_X5_91 : Cond.constant RX5 91 (99999) ∈ wg_ok := wg_in (List.mem_append_right _ (List.mem_append_right _ (List.mem_append_right _ (List.mem_append_left _ (List.mem_of_getElem? (i := 171) rfl))))) rfl
set_option maxRecDepth 20000 in
theorem ml_X5_142 : Cond.methodLink RX5 142 yX5_sundaysGo ∈ wg_ok := wg_in (List.mem_append_right _ (List.mem_append_right _ (List.mem_append_right _ (List.mem_append_left _ (List.mem_of_getElem? (i := 172) rfl))))) rfl
set_option maxRecDepth 20000 in
theorem ml_X5_92 : Cond.methodLink RX5 92 yX5_sundayGoes ∈ wg_ok := wg_in (List.mem_append_right _ (List.mem_append_right _ (List.mem_append_right _ (List.mem_append_left _ (List.mem_of_getElem? (i := 176) rfl))))) rfl
set_option maxRecDepth 20000 in
theorem ml_X5_65 : Cond.methodLink RX5 65 yX5_todays ∈ wg_ok := wg_in (List.mem_append_right _ (List.mem_append_right _ (List.mem_append_right _ (List.mem_append_left _ (List.mem_of_getElem? (i := 180) rfl))))) rfl
set_option maxRecDepth 20000 in
theorem ml_X5_69 : Cond.methodLink RX5 69 yX5_visitedOf ∈ wg_ok := wg_in (List.mem_append_right _ (List.mem_append_right _ (List.mem_append_right _ (List.mem_append_left _ (List.mem_of_getElem? (i := 184) rfl))))) rfl
set_option maxRecDepth 20000 in
theorem ml_X5_72 : Cond.methodLink RX5 72 yX5_sharersOf ∈ wg_ok := wg_in (List.mem_append_right _ (List.mem_append_right _ (List.mem_append_right _ (List.mem_append_left _ (List.mem_of_getElem? (i := 188) rfl))))) rfl
set_option maxRecDepth 20000 in
theorem ml_X5_75 : Cond.methodLink RX5 75 yX5_helpedOf ∈ wg_ok := wg_in (List.mem_append_right _ (List.mem_append_right _ (List.mem_append_right _ (List.mem_append_left _ (List.mem_of_getElem? (i := 192) rfl))))) rfl
set_option maxRecDepth 20000 in
theorem ml_X5_62 : Cond.methodLink RX5 62 yX5_longest ∈ wg_ok := wg_in (List.mem_append_right _ (List.mem_append_right _ (List.mem_append_right _ (List.mem_append_left _ (List.mem_of_getElem? (i := 196) rfl))))) rfl
set_option maxRecDepth 20000 in
theorem ml_X5_78 : Cond.methodLink RX5 78 yX5_ones ∈ wg_ok := wg_in (List.mem_append_right _ (List.mem_append_right _ (List.mem_append_right _ (List.mem_append_left _ (List.mem_of_getElem? (i := 200) rfl))))) rfl
set_option maxRecDepth 20000 in
theorem ml_X5_146 : Cond.methodLink RX5 146 yX5_sumOf ∈ wg_ok := wg_in (List.mem_append_right _ (List.mem_append_right _ (List.mem_append_right _ (List.mem_append_left _ (List.mem_of_getElem? (i := 203) rfl))))) rfl
set_option maxRecDepth 20000 in
theorem ml_L_51 : Cond.methodLink "SundayVisitsLaw" 51 yX5_now ∈ wg_ok := wg_in (List.mem_append_right _ (List.mem_append_right _ (List.mem_append_right _ (List.mem_append_left _ (List.mem_of_getElem? (i := 207) rfl))))) rfl
set_option maxRecDepth 20000 in
theorem ml_X5_149 : Cond.methodLink RX5 149 yX5_wells ∈ wg_ok := wg_in (List.mem_append_right _ (List.mem_append_right _ (List.mem_append_right _ (List.mem_append_left _ (List.mem_of_getElem? (i := 211) rfl))))) rfl
set_option maxRecDepth 20000 in
theorem ml_L_55 : Cond.methodLink "SundayVisitsLaw" 55 yX5_ahead ∈ wg_ok := wg_in (List.mem_append_right _ (List.mem_append_right _ (List.mem_append_right _ (List.mem_append_left _ (List.mem_of_getElem? (i := 215) rfl))))) rfl
set_option maxRecDepth 20000 in
theorem cn_X5_156 : Cond.constantLong RX5 156 (100) ∈ wg_ok := wg_in (List.mem_append_right _ (List.mem_append_right _ (List.mem_append_right _ (List.mem_append_left _ (List.mem_of_getElem? (i := 219) rfl))))) rfl
set_option maxRecDepth 20000 in
theorem ml_X5_152 : Cond.methodLink RX5 152 yX5_copies ∈ wg_ok := wg_in (List.mem_append_right _ (List.mem_append_right _ (List.mem_append_right _ (List.mem_append_left _ (List.mem_of_getElem? (i := 220) rfl))))) rfl
set_option maxRecDepth 20000 in
theorem ml_X5_158 : Cond.methodLink RX5 158 yX5_behind ∈ wg_ok := wg_in (List.mem_append_right _ (List.mem_append_right _ (List.mem_append_right _ (List.mem_append_left _ (List.mem_of_getElem? (i := 223) rfl))))) rfl
set_option maxRecDepth 20000 in
theorem ml_L_59 : Cond.methodLink "SundayVisitsLaw" 59 yX5_glad ∈ wg_ok := wg_in (List.mem_append_right _ (List.mem_append_right _ (List.mem_append_right _ (List.mem_append_left _ (List.mem_of_getElem? (i := 227) rfl))))) rfl
set_option maxRecDepth 20000 in
theorem ml_X5_161 : Cond.methodLink RX5 161 yX5_firstOf ∈ wg_ok := wg_in (List.mem_append_right _ (List.mem_append_right _ (List.mem_append_right _ (List.mem_append_left _ (List.mem_of_getElem? (i := 231) rfl))))) rfl
set_option maxRecDepth 20000 in
theorem ml_L_63 : Cond.methodLink "SundayVisitsLaw" 63 yX5_sad ∈ wg_ok := wg_in (List.mem_append_right _ (List.mem_append_right _ (List.mem_append_right _ (List.mem_append_left _ (List.mem_of_getElem? (i := 235) rfl))))) rfl
set_option maxRecDepth 20000 in
theorem ml_L_67 : Cond.methodLink "SundayVisitsLaw" 67 yX5_when ∈ wg_ok := wg_in (List.mem_append_right _ (List.mem_append_right _ (List.mem_append_right _ (List.mem_append_left _ (List.mem_of_getElem? (i := 239) rfl))))) rfl
set_option maxRecDepth 20000 in
theorem ml_L_72 : Cond.methodLink "SundayVisitsLaw" 72 yX5_well ∈ wg_ok := wg_in (List.mem_append_right _ (List.mem_append_right _ (List.mem_append_right _ (List.mem_append_right _ (List.mem_of_getElem? (i := 3) rfl))))) rfl
set_option maxRecDepth 20000 in
theorem ml_X5_164 : Cond.methodLink RX5 164 yX5_areAll ∈ wg_ok := wg_in (List.mem_append_right _ (List.mem_append_right _ (List.mem_append_right _ (List.mem_append_right _ (List.mem_of_getElem? (i := 7) rfl))))) rfl
set_option maxRecDepth 20000 in
theorem ml_L_76 : Cond.methodLink "SundayVisitsLaw" 76 yX5_longFor ∈ wg_ok := wg_in (List.mem_append_right _ (List.mem_append_right _ (List.mem_append_right _ (List.mem_append_right _ (List.mem_of_getElem? (i := 11) rfl))))) rfl
set_option maxRecDepth 20000 in
theorem ml_X5_170 : Cond.methodLink RX5 170 yX5_isShort ∈ wg_ok := wg_in (List.mem_append_right _ (List.mem_append_right _ (List.mem_append_right _ (List.mem_append_right _ (List.mem_of_getElem? (i := 15) rfl))))) rfl
set_option maxRecDepth 20000 in
theorem cn_X5_168 : Cond.constantLong RX5 168 (40) ∈ wg_ok := wg_in (List.mem_append_right _ (List.mem_append_right _ (List.mem_append_right _ (List.mem_append_right _ (List.mem_of_getElem? (i := 18) rfl))))) rfl
set_option maxRecDepth 20000 in
theorem ml_L_80 : Cond.methodLink "SundayVisitsLaw" 80 yX5_chairsFor ∈ wg_ok := wg_in (List.mem_append_right _ (List.mem_append_right _ (List.mem_append_right _ (List.mem_append_right _ (List.mem_of_getElem? (i := 19) rfl))))) rfl
set_option maxRecDepth 20000 in
theorem ml_L_84 : Cond.methodLink "SundayVisitsLaw" 84 yX5_volunteersFor ∈ wg_ok := wg_in (List.mem_append_right _ (List.mem_append_right _ (List.mem_append_right _ (List.mem_append_right _ (List.mem_of_getElem? (i := 23) rfl))))) rfl
set_option maxRecDepth 20000 in
theorem ml_L_88 : Cond.methodLink "SundayVisitsLaw" 88 yX5_comeOn ∈ wg_ok := wg_in (List.mem_append_right _ (List.mem_append_right _ (List.mem_append_right _ (List.mem_append_right _ (List.mem_of_getElem? (i := 27) rfl))))) rfl
set_option maxRecDepth 20000 in
theorem ml_L_92 : Cond.methodLink "SundayVisitsLaw" 92 yX5_kindFor ∈ wg_ok := wg_in (List.mem_append_right _ (List.mem_append_right _ (List.mem_append_right _ (List.mem_append_right _ (List.mem_of_getElem? (i := 31) rfl))))) rfl
set_option maxRecDepth 20000 in
theorem ml_L_96 : Cond.methodLink "SundayVisitsLaw" 96 yX5_friendFor ∈ wg_ok := wg_in (List.mem_append_right _ (List.mem_append_right _ (List.mem_append_right _ (List.mem_append_right _ (List.mem_of_getElem? (i := 35) rfl))))) rfl
set_option maxRecDepth 20000 in
theorem ml_L_100 : Cond.methodLink "SundayVisitsLaw" 100 yX5_away ∈ wg_ok := wg_in (List.mem_append_right _ (List.mem_append_right _ (List.mem_append_right _ (List.mem_append_right _ (List.mem_of_getElem? (i := 39) rfl))))) rfl
set_option maxRecDepth 20000 in
theorem ml_L_104 : Cond.methodLink "SundayVisitsLaw" 104 yX5_fits ∈ wg_ok := wg_in (List.mem_append_right _ (List.mem_append_right _ (List.mem_append_right _ (List.mem_append_right _ (List.mem_of_getElem? (i := 43) rfl))))) rfl
set_option maxRecDepth 20000 in
theorem ml_X5_176 : Cond.methodLink RX5 176 yX5_whyNot ∈ wg_ok := wg_in (List.mem_append_right _ (List.mem_append_right _ (List.mem_append_right _ (List.mem_append_right _ (List.mem_of_getElem? (i := 47) rfl))))) rfl
set_option maxRecDepth 20000 in
theorem ml_X5_173 : Cond.methodLink RX5 173 yX5_whyNone ∈ wg_ok := wg_in (List.mem_append_right _ (List.mem_append_right _ (List.mem_append_right _ (List.mem_append_right _ (List.mem_of_getElem? (i := 51) rfl))))) rfl
set_option maxRecDepth 20000 in
theorem ml_X5_296 : Cond.methodLink RX5 296 yX5_isSheet ∈ wg_ok := wg_in (List.mem_append_right _ (List.mem_append_right _ (List.mem_append_right _ (List.mem_append_right _ (List.mem_of_getElem? (i := 55) rfl))))) rfl
set_option maxRecDepth 20000 in
theorem ml_X5_179 : Cond.methodLink RX5 179 yX5_isTold ∈ wg_ok := wg_in (List.mem_append_right _ (List.mem_append_right _ (List.mem_append_right _ (List.mem_append_right _ (List.mem_of_getElem? (i := 58) rfl))))) rfl
set_option maxRecDepth 20000 in
theorem ml_L_108 : Cond.methodLink "SundayVisitsLaw" 108 yX5_mood ∈ wg_ok := wg_in (List.mem_append_right _ (List.mem_append_right _ (List.mem_append_right _ (List.mem_append_right _ (List.mem_of_getElem? (i := 62) rfl))))) rfl
set_option maxRecDepth 20000 in
theorem ml_L_112 : Cond.methodLink "SundayVisitsLaw" 112 yX5_kinds ∈ wg_ok := wg_in (List.mem_append_right _ (List.mem_append_right _ (List.mem_append_right _ (List.mem_append_right _ (List.mem_of_getElem? (i := 66) rfl))))) rfl
set_option maxRecDepth 20000 in
theorem ml_L_116 : Cond.methodLink "SundayVisitsLaw" 116 yX5_come ∈ wg_ok := wg_in (List.mem_append_right _ (List.mem_append_right _ (List.mem_append_right _ (List.mem_append_right _ (List.mem_of_getElem? (i := 70) rfl))))) rfl
set_option maxRecDepth 20000 in
theorem ml_X5_184 : Cond.methodLink RX5 184 yX5_draw ∈ wg_ok := wg_in (List.mem_append_right _ (List.mem_append_right _ (List.mem_append_right _ (List.mem_append_right _ (List.mem_of_getElem? (i := 74) rfl))))) rfl
set_option maxRecDepth 20000 in
theorem cn_X5_183 : Cond.constant RX5 183 (1103515245) ∈ wg_ok := wg_in (List.mem_append_right _ (List.mem_append_right _ (List.mem_append_right _ (List.mem_append_right _ (List.mem_of_getElem? (i := 78) rfl))))) rfl
set_option maxRecDepth 20000 in
theorem ml_L_121 : Cond.methodLink "SundayVisitsLaw" 121 yX5_odds ∈ wg_ok := wg_in (List.mem_append_right _ (List.mem_append_right _ (List.mem_append_right _ (List.mem_append_right _ (List.mem_of_getElem? (i := 79) rfl))))) rfl
set_option maxRecDepth 20000 in
theorem cn_X5_187 : Cond.constantLong RX5 187 (7) ∈ wg_ok := wg_in (List.mem_append_right _ (List.mem_append_right _ (List.mem_append_right _ (List.mem_append_right _ (List.mem_of_getElem? (i := 83) rfl))))) rfl
set_option maxRecDepth 20000 in
theorem ml_L_125 : Cond.methodLink "SundayVisitsLaw" 125 yX5_seed ∈ wg_ok := wg_in (List.mem_append_right _ (List.mem_append_right _ (List.mem_append_right _ (List.mem_append_right _ (List.mem_of_getElem? (i := 84) rfl))))) rfl
set_option maxRecDepth 20000 in
theorem ml_L_129 : Cond.methodLink "SundayVisitsLaw" 129 yX5_feed ∈ wg_ok := wg_in (List.mem_append_right _ (List.mem_append_right _ (List.mem_append_right _ (List.mem_append_right _ (List.mem_of_getElem? (i := 88) rfl))))) rfl
set_option maxRecDepth 20000 in
theorem ml_L_133 : Cond.methodLink "SundayVisitsLaw" 133 yX5_wipe ∈ wg_ok := wg_in (List.mem_append_right _ (List.mem_append_right _ (List.mem_append_right _ (List.mem_append_right _ (List.mem_of_getElem? (i := 92) rfl))))) rfl
set_option maxRecDepth 20000 in
theorem ml_L_137 : Cond.methodLink "SundayVisitsLaw" 137 yX5_text ∈ wg_ok := wg_in (List.mem_append_right _ (List.mem_append_right _ (List.mem_append_right _ (List.mem_append_right _ (List.mem_of_getElem? (i := 96) rfl))))) rfl
set_option maxRecDepth 20000 in
theorem ml_X5_288 : Cond.methodLink RX5 288 yX5_items ∈ wg_ok := wg_in (List.mem_append_right _ (List.mem_append_right _ (List.mem_append_right _ (List.mem_append_right _ (List.mem_of_getElem? (i := 100) rfl))))) rfl
set_option maxRecDepth 20000 in
theorem ml_X5_255 : Cond.methodLink RX5 255 yX5_next ∈ wg_ok := wg_in (List.mem_append_right _ (List.mem_append_right _ (List.mem_append_right _ (List.mem_append_right _ (List.mem_of_getElem? (i := 104) rfl))))) rfl
set_option maxRecDepth 20000 in
theorem ml_X5_196 : Cond.methodLink RX5 196 yX5_byteAt ∈ wg_ok := wg_in (List.mem_append_right _ (List.mem_append_right _ (List.mem_append_right _ (List.mem_append_right _ (List.mem_of_getElem? (i := 108) rfl))))) rfl
set_option maxRecDepth 20000 in
theorem ml_X5_209 : Cond.methodLink RX5 209 yX5_letter ∈ wg_ok := wg_in (List.mem_append_right _ (List.mem_append_right _ (List.mem_append_right _ (List.mem_append_right _ (List.mem_of_getElem? (i := 112) rfl))))) rfl
set_option maxRecDepth 20000 in
theorem cn_X5_212 : Cond.constantLong RX5 212 (100000000000000000) ∈ wg_ok := wg_in (List.mem_append_right _ (List.mem_append_right _ (List.mem_append_right _ (List.mem_append_right _ (List.mem_of_getElem? (i := 115) rfl))))) rfl
set_option maxRecDepth 20000 in
theorem cn_X5_214 : Cond.constantLong RX5 214 (27) ∈ wg_ok := wg_in (List.mem_append_right _ (List.mem_append_right _ (List.mem_append_right _ (List.mem_append_right _ (List.mem_of_getElem? (i := 116) rfl))))) rfl
set_option maxRecDepth 20000 in
theorem ml_X5_216 : Cond.methodLink RX5 216 yX5_isDigit ∈ wg_ok := wg_in (List.mem_append_right _ (List.mem_append_right _ (List.mem_append_right _ (List.mem_append_right _ (List.mem_of_getElem? (i := 117) rfl))))) rfl
set_option maxRecDepth 20000 in
theorem cn_X5_219 : Cond.constantLong RX5 219 (10) ∈ wg_ok := wg_in (List.mem_append_right _ (List.mem_append_right _ (List.mem_append_right _ (List.mem_append_right _ (List.mem_of_getElem? (i := 120) rfl))))) rfl
set_option maxRecDepth 20000 in
theorem cn_X5_221 : Cond.constantLong RX5 221 (48) ∈ wg_ok := wg_in (List.mem_append_right _ (List.mem_append_right _ (List.mem_append_right _ (List.mem_append_right _ (List.mem_of_getElem? (i := 121) rfl))))) rfl
set_option maxRecDepth 20000 in
theorem ml_X5_285 : Cond.methodLink RX5 285 yX5_item ∈ wg_ok := wg_in (List.mem_append_right _ (List.mem_append_right _ (List.mem_append_right _ (List.mem_append_right _ (List.mem_of_getElem? (i := 122) rfl))))) rfl
set_option maxRecDepth 20000 in
theorem ml_X5_271 : Cond.methodLink RX5 271 yX5_kindHere ∈ wg_ok := wg_in (List.mem_append_right _ (List.mem_append_right _ (List.mem_append_right _ (List.mem_append_right _ (List.mem_of_getElem? (i := 126) rfl))))) rfl
set_option maxRecDepth 20000 in
theorem cn_X5_226 : Cond.constantLong RX5 226 (190500955076) ∈ wg_ok := wg_in (List.mem_append_right _ (List.mem_append_right _ (List.mem_append_right _ (List.mem_append_right _ (List.mem_of_getElem? (i := 130) rfl))))) rfl
set_option maxRecDepth 20000 in
theorem ml_X5_228 : Cond.methodLink RX5 228 yX5_isWord ∈ wg_ok := wg_in (List.mem_append_right _ (List.mem_append_right _ (List.mem_append_right _ (List.mem_append_right _ (List.mem_of_getElem? (i := 131) rfl))))) rfl
set_option maxRecDepth 20000 in
theorem cn_X5_232 : Cond.constantLong RX5 232 (177406873) ∈ wg_ok := wg_in (List.mem_append_right _ (List.mem_append_right _ (List.mem_append_right _ (List.mem_append_right _ (List.mem_of_getElem? (i := 135) rfl))))) rfl
set_option maxRecDepth 20000 in
theorem cn_X5_234 : Cond.constantLong RX5 234 (7535943612) ∈ wg_ok := wg_in (List.mem_append_right _ (List.mem_append_right _ (List.mem_append_right _ (List.mem_append_right _ (List.mem_of_getElem? (i := 136) rfl))))) rfl
set_option maxRecDepth 20000 in
theorem cn_X5_236 : Cond.constantLong RX5 236 (11717060) ∈ wg_ok := wg_in (List.mem_append_right _ (List.mem_append_right _ (List.mem_append_right _ (List.mem_append_right _ (List.mem_of_getElem? (i := 137) rfl))))) rfl
set_option maxRecDepth 20000 in
theorem cn_X5_238 : Cond.constantLong RX5 238 (1810648800) ∈ wg_ok := wg_in (List.mem_append_right _ (List.mem_append_right _ (List.mem_append_right _ (List.mem_append_right _ (List.mem_of_getElem? (i := 138) rfl))))) rfl
set_option maxRecDepth 20000 in
theorem cn_X5_240 : Cond.constantLong RX5 240 (8935714008) ∈ wg_ok := wg_in (List.mem_append_right _ (List.mem_append_right _ (List.mem_append_right _ (List.mem_append_right _ (List.mem_of_getElem? (i := 139) rfl))))) rfl
set_option maxRecDepth 20000 in
theorem cn_X5_242 : Cond.constantLong RX5 242 (110038579) ∈ wg_ok := wg_in (List.mem_append_right _ (List.mem_append_right _ (List.mem_append_right _ (List.mem_append_right _ (List.mem_of_getElem? (i := 140) rfl))))) rfl
set_option maxRecDepth 20000 in
theorem ml_X5_274 : Cond.methodLink RX5 274 yX5_setHere ∈ wg_ok := wg_in (List.mem_append_right _ (List.mem_append_right _ (List.mem_append_right _ (List.mem_append_right _ (List.mem_of_getElem? (i := 141) rfl))))) rfl
set_option maxRecDepth 20000 in
theorem cn_X5_244 : Cond.constantLong RX5 244 (47324998) ∈ wg_ok := wg_in (List.mem_append_right _ (List.mem_append_right _ (List.mem_append_right _ (List.mem_append_right _ (List.mem_of_getElem? (i := 145) rfl))))) rfl
set_option maxRecDepth 20000 in
theorem cn_X5_246 : Cond.constantLong RX5 246 (60080) ∈ wg_ok := wg_in (List.mem_append_right _ (List.mem_append_right _ (List.mem_append_right _ (List.mem_append_right _ (List.mem_of_getElem? (i := 146) rfl))))) rfl
set_option maxRecDepth 20000 in
theorem cn_X5_248 : Cond.constantLong RX5 248 (172133459401717) ∈ wg_ok := wg_in (List.mem_append_right _ (List.mem_append_right _ (List.mem_append_right _ (List.mem_append_right _ (List.mem_of_getElem? (i := 147) rfl))))) rfl
set_option maxRecDepth 20000 in
theorem cn_X5_250 : Cond.constantLong RX5 250 (247516) ∈ wg_ok := wg_in (List.mem_append_right _ (List.mem_append_right _ (List.mem_append_right _ (List.mem_append_right _ (List.mem_of_getElem? (i := 148) rfl))))) rfl
set_option maxRecDepth 20000 in
theorem ml_X5_277 : Cond.methodLink RX5 277 yX5_residentHere ∈ wg_ok := wg_in (List.mem_append_right _ (List.mem_append_right _ (List.mem_append_right _ (List.mem_append_right _ (List.mem_of_getElem? (i := 149) rfl))))) rfl
set_option maxRecDepth 20000 in
theorem ml_X5_252 : Cond.methodLink RX5 252 yX5_wrongHere ∈ wg_ok := wg_in (List.mem_append_right _ (List.mem_append_right _ (List.mem_append_right _ (List.mem_append_right _ (List.mem_of_getElem? (i := 153) rfl))))) rfl
set_option maxRecDepth 20000 in
theorem cn_X5_261 : Cond.constantLong RX5 261 (267223) ∈ wg_ok := wg_in (List.mem_append_right _ (List.mem_append_right _ (List.mem_append_right _ (List.mem_append_right _ (List.mem_of_getElem? (i := 157) rfl))))) rfl
set_option maxRecDepth 20000 in
theorem ml_X5_263 : Cond.methodLink RX5 263 yX5_perhaps ∈ wg_ok := wg_in (List.mem_append_right _ (List.mem_append_right _ (List.mem_append_right _ (List.mem_append_right _ (List.mem_of_getElem? (i := 158) rfl))))) rfl
set_option maxRecDepth 20000 in
theorem ml_X5_258 : Cond.methodLink RX5 258 yX5_numberHere ∈ wg_ok := wg_in (List.mem_append_right _ (List.mem_append_right _ (List.mem_append_right _ (List.mem_append_right _ (List.mem_of_getElem? (i := 162) rfl))))) rfl
set_option maxRecDepth 20000 in
theorem cn_X5_267 : Cond.constantLong RX5 267 (95840554) ∈ wg_ok := wg_in (List.mem_append_right _ (List.mem_append_right _ (List.mem_append_right _ (List.mem_append_right _ (List.mem_of_getElem? (i := 166) rfl))))) rfl
set_option maxRecDepth 20000 in
theorem cn_X5_269 : Cond.constantLong RX5 269 (12249946) ∈ wg_ok := wg_in (List.mem_append_right _ (List.mem_append_right _ (List.mem_append_right _ (List.mem_append_right _ (List.mem_of_getElem? (i := 167) rfl))))) rfl
set_option maxRecDepth 20000 in
theorem cn_X5_280 : Cond.constantLong RX5 280 (320840020) ∈ wg_ok := wg_in (List.mem_append_right _ (List.mem_append_right _ (List.mem_append_right _ (List.mem_append_right _ (List.mem_of_getElem? (i := 168) rfl))))) rfl
set_option maxRecDepth 20000 in
theorem ml_X5_282 : Cond.methodLink RX5 282 yX5_visitsHere ∈ wg_ok := wg_in (List.mem_append_right _ (List.mem_append_right _ (List.mem_append_right _ (List.mem_append_right _ (List.mem_of_getElem? (i := 169) rfl))))) rfl
set_option maxRecDepth 20000 in
theorem ml_L_141 : Cond.methodLink "SundayVisitsLaw" 141 yX5_hold ∈ wg_ok := wg_in (List.mem_append_right _ (List.mem_append_right _ (List.mem_append_right _ (List.mem_append_right _ (List.mem_of_getElem? (i := 173) rfl))))) rfl
set_option maxRecDepth 20000 in
theorem cn_X5_291 : Cond.constantLong RX5 291 (9) ∈ wg_ok := wg_in (List.mem_append_right _ (List.mem_append_right _ (List.mem_append_right _ (List.mem_append_right _ (List.mem_of_getElem? (i := 177) rfl))))) rfl
set_option maxRecDepth 20000 in
theorem ml_L_145 : Cond.methodLink "SundayVisitsLaw" 145 yX5_as ∈ wg_ok := wg_in (List.mem_append_right _ (List.mem_append_right _ (List.mem_append_right _ (List.mem_append_right _ (List.mem_of_getElem? (i := 178) rfl))))) rfl
set_option maxRecDepth 20000 in
theorem ml_X5_293 : Cond.methodLink RX5 293 yX5_above ∈ wg_ok := wg_in (List.mem_append_right _ (List.mem_append_right _ (List.mem_append_right _ (List.mem_append_right _ (List.mem_of_getElem? (i := 182) rfl))))) rfl
set_option maxRecDepth 20000 in
theorem ml_L_149 : Cond.methodLink "SundayVisitsLaw" 149 yX5_sheet ∈ wg_ok := wg_in (List.mem_append_right _ (List.mem_append_right _ (List.mem_append_right _ (List.mem_append_right _ (List.mem_of_getElem? (i := 185) rfl))))) rfl
set_option maxRecDepth 20000 in
theorem ml_L_153 : Cond.methodLink "SundayVisitsLaw" 153 yX5_write ∈ wg_ok := wg_in (List.mem_append_right _ (List.mem_append_right _ (List.mem_append_right _ (List.mem_append_right _ (List.mem_of_getElem? (i := 189) rfl))))) rfl
set_option maxRecDepth 20000 in
theorem ml_L_158 : Cond.methodLink "SundayVisitsLaw" 158 yX5_copy ∈ wg_ok := wg_in (List.mem_append_right _ (List.mem_append_right _ (List.mem_append_right _ (List.mem_append_right _ (List.mem_of_getElem? (i := 193) rfl))))) rfl
set_option maxRecDepth 20000 in
theorem ml_L_162 : Cond.methodLink "SundayVisitsLaw" 162 yX5_load ∈ wg_ok := wg_in (List.mem_append_right _ (List.mem_append_right _ (List.mem_append_right _ (List.mem_append_right _ (List.mem_of_getElem? (i := 197) rfl))))) rfl
set_option maxRecDepth 20000 in
theorem ml_L_166 : Cond.methodLink "SundayVisitsLaw" 166 yX5_judge ∈ wg_ok := wg_in (List.mem_append_right _ (List.mem_append_right _ (List.mem_append_right _ (List.mem_append_right _ (List.mem_of_getElem? (i := 201) rfl))))) rfl
set_option maxRecDepth 20000 in
theorem ml_L_170 : Cond.methodLink "SundayVisitsLaw" 170 yX5_image ∈ wg_ok := wg_in (List.mem_append_right _ (List.mem_append_right _ (List.mem_append_right _ (List.mem_append_right _ (List.mem_of_getElem? (i := 205) rfl))))) rfl
set_option maxRecDepth 20000 in
theorem ml_L_174 : Cond.methodLink "SundayVisitsLaw" 174 yX5_undo ∈ wg_ok := wg_in (List.mem_append_right _ (List.mem_append_right _ (List.mem_append_right _ (List.mem_append_right _ (List.mem_of_getElem? (i := 209) rfl))))) rfl
set_option maxRecDepth 20000 in
theorem ml_L_178 : Cond.methodLink "SundayVisitsLaw" 178 yX5_tear ∈ wg_ok := wg_in (List.mem_append_right _ (List.mem_append_right _ (List.mem_append_right _ (List.mem_append_right _ (List.mem_of_getElem? (i := 213) rfl))))) rfl
set_option maxRecDepth 20000 in
theorem ml_L_182 : Cond.methodLink "SundayVisitsLaw" 182 yX5_count ∈ wg_ok := wg_in (List.mem_append_right _ (List.mem_append_right _ (List.mem_append_right _ (List.mem_append_right _ (List.mem_of_getElem? (i := 217) rfl))))) rfl
set_option maxRecDepth 20000 in
theorem ml_X5_303 : Cond.methodLink RX5 303 yX5_holding ∈ wg_ok := wg_in (List.mem_append_right _ (List.mem_append_right _ (List.mem_append_right _ (List.mem_append_right _ (List.mem_of_getElem? (i := 221) rfl))))) rfl
set_option maxRecDepth 20000 in
theorem ml_L_186 : Cond.methodLink "SundayVisitsLaw" 186 yX5_status ∈ wg_ok := wg_in (List.mem_append_right _ (List.mem_append_right _ (List.mem_append_right _ (List.mem_append_right _ (List.mem_of_getElem? (i := 225) rfl))))) rfl
set_option maxRecDepth 20000 in
theorem fl_J0_9 : Cond.fieldLink RJ0 9 "java/lang/String" "value" "[B" ∈ wg_ok := wg_in (List.mem_append_right _ (List.mem_append_right _ (List.mem_append_right _ (List.mem_append_right _ (List.mem_of_getElem? (i := 229) rfl))))) rfl
set_option maxRecDepth 20000 in
theorem fl_J0_15 : Cond.fieldLink RJ0 15 "java/lang/String" "coder" "B" ∈ wg_ok := wg_in (List.mem_append_right _ (List.mem_append_right _ (List.mem_append_right _ (List.mem_append_right _ (List.mem_of_getElem? (i := 230) rfl))))) rfl
set_option maxRecDepth 20000 in
theorem in_L : Cond.initialized "SundayVisitsLaw" ∈ wg_ok := wg_in (List.mem_append_left _ (List.mem_of_getElem? (i := 0) rfl)) rfl
set_option maxRecDepth 20000 in
theorem in_X4 : Cond.initialized "SundayVisits" ∈ wg_ok := wg_in (List.mem_append_left _ (List.mem_of_getElem? (i := 1) rfl)) rfl
set_option maxRecDepth 20000 in
theorem in_X0 : Cond.initialized "SundayVisits$Home" ∈ wg_ok := wg_in (List.mem_append_left _ (List.mem_of_getElem? (i := 2) rfl)) rfl
set_option maxRecDepth 20000 in
theorem in_X1 : Cond.initialized "SundayVisits$Resident" ∈ wg_ok := wg_in (List.mem_append_left _ (List.mem_of_getElem? (i := 3) rfl)) rfl
set_option maxRecDepth 20000 in
theorem in_J7 : Cond.initialized "java/util/Arrays" ∈ wg_ok := wg_in (List.mem_append_left _ (List.mem_of_getElem? (i := 4) rfl)) rfl
set_option maxRecDepth 20000 in
theorem in_X3 : Cond.initialized "SundayVisits$Tape" ∈ wg_ok := wg_in (List.mem_append_left _ (List.mem_of_getElem? (i := 5) rfl)) rfl
set_option maxRecDepth 20000 in
theorem in_X2 : Cond.initialized "SundayVisits$Sheet" ∈ wg_ok := wg_in (List.mem_append_left _ (List.mem_of_getElem? (i := 6) rfl)) rfl
set_option maxRecDepth 20000 in
theorem in_X5 : Cond.initialized "SundayVisitsModel" ∈ wg_ok := wg_in (List.mem_append_left _ (List.mem_of_getElem? (i := 7) rfl)) rfl
set_option maxRecDepth 20000 in
theorem in_J9 : Cond.initialized "java/lang/Math" ∈ wg_ok := wg_in (List.mem_append_left _ (List.mem_of_getElem? (i := 8) rfl)) rfl
set_option maxRecDepth 20000 in
theorem in_J6 : Cond.initialized "java/lang/Integer" ∈ wg_ok := wg_in (List.mem_append_left _ (List.mem_of_getElem? (i := 9) rfl)) rfl
set_option maxRecDepth 20000 in
theorem in_J10 : Cond.initialized "java/lang/System" ∈ wg_ok := wg_in (List.mem_append_left _ (List.mem_of_getElem? (i := 10) rfl)) rfl
set_option maxRecDepth 20000 in
theorem in_J0 : Cond.initialized "java/lang/String" ∈ wg_ok := wg_in (List.mem_append_left _ (List.mem_of_getElem? (i := 11) rfl)) rfl
set_option maxRecDepth 20000 in
theorem in_J1 : Cond.initialized "java/lang/StringLatin1" ∈ wg_ok := wg_in (List.mem_append_left _ (List.mem_of_getElem? (i := 12) rfl)) rfl
set_option maxRecDepth 20000 in
theorem in_J3 : Cond.initialized "jdk/internal/util/Preconditions" ∈ wg_ok := wg_in (List.mem_append_left _ (List.mem_of_getElem? (i := 13) rfl)) rfl
set_option maxRecDepth 20000 in
theorem in_J2 : Cond.initialized "java/lang/StringUTF16" ∈ wg_ok := wg_in (List.mem_append_left _ (List.mem_of_getElem? (i := 14) rfl)) rfl
set_option maxRecDepth 20000 in
theorem mk_X4_init : Cond.code yX4_init cX4_init 2 none ∈ wg_ok := wg_in (List.mem_append_left _ (List.mem_of_getElem? (i := 19) rfl)) rfl
set_option maxRecDepth 20000 in
theorem mq_X4_init : Cond.instanceMethod yX4_init ∈ wg_ok := wg_in (List.mem_append_left _ (List.mem_of_getElem? (i := 18) rfl)) rfl
set_option maxRecDepth 20000 in
theorem mk_X0_init : Cond.code yX0_init cX0_init 2 none ∈ wg_ok := wg_in (List.mem_append_left _ (List.mem_of_getElem? (i := 27) rfl)) rfl
set_option maxRecDepth 20000 in
theorem mq_X0_init : Cond.instanceMethod yX0_init ∈ wg_ok := wg_in (List.mem_append_left _ (List.mem_of_getElem? (i := 26) rfl)) rfl
set_option maxRecDepth 20000 in
theorem mk_X1_init : Cond.code yX1_init cX1_init 1 none ∈ wg_ok := wg_in (List.mem_append_left _ (List.mem_of_getElem? (i := 34) rfl)) rfl
set_option maxRecDepth 20000 in
theorem mq_X1_init : Cond.instanceMethod yX1_init ∈ wg_ok := wg_in (List.mem_append_left _ (List.mem_of_getElem? (i := 33) rfl)) rfl
set_option maxRecDepth 20000 in
theorem ms_J7_fill_53178 : Ms yJ7_fill_53178 cJ7_fill_53178 4 none 2 := ⟨wg_in (List.mem_append_left _ (List.mem_of_getElem? (i := 61) rfl)) rfl, in_J7, wg_in (List.mem_append_left _ (List.mem_of_getElem? (i := 62) rfl)) rfl, ⟨by decide +kernel, by decide +kernel, by decide +kernel⟩⟩
set_option maxRecDepth 20000 in
theorem mk_X3_init : Cond.code yX3_init cX3_init 1 none ∈ wg_ok := wg_in (List.mem_append_left _ (List.mem_of_getElem? (i := 111) rfl)) rfl
set_option maxRecDepth 20000 in
theorem mq_X3_init : Cond.instanceMethod yX3_init ∈ wg_ok := wg_in (List.mem_append_left _ (List.mem_of_getElem? (i := 110) rfl)) rfl
set_option maxRecDepth 20000 in
theorem mk_X2_init : Cond.code yX2_init cX2_init 1 none ∈ wg_ok := wg_in (List.mem_append_left _ (List.mem_of_getElem? (i := 138) rfl)) rfl
set_option maxRecDepth 20000 in
theorem mq_X2_init : Cond.instanceMethod yX2_init ∈ wg_ok := wg_in (List.mem_append_left _ (List.mem_of_getElem? (i := 137) rfl)) rfl
set_option maxRecDepth 20000 in
theorem mi_X4_set : Mi yX4_set cX4_set 4 (some .int) 2 := ⟨wg_in (List.mem_append_left _ (List.mem_of_getElem? (i := 176) rfl)) rfl, wg_in (List.mem_append_left _ (List.mem_of_getElem? (i := 177) rfl)) rfl, in_X4, wg_in (List.mem_append_left _ (List.mem_of_getElem? (i := 178) rfl)) rfl, ⟨by decide +kernel, by decide +kernel, by decide +kernel⟩⟩
set_option maxRecDepth 20000 in
theorem ms_X4_settingFits : Ms yX4_settingFits cX4_settingFits 2 (some .boolean) 2 := ⟨wg_in (List.mem_append_left _ (List.mem_of_getElem? (i := 180) rfl)) rfl, in_X4, wg_in (List.mem_append_left _ (List.mem_of_getElem? (i := 181) rfl)) rfl, ⟨by decide +kernel, by decide +kernel, by decide +kernel⟩⟩
set_option maxRecDepth 20000 in
theorem ms_X4_within : Ms yX4_within cX4_within 3 (some .boolean) 3 := ⟨wg_in (List.mem_append_left _ (List.mem_of_getElem? (i := 183) rfl)) rfl, in_X4, wg_in (List.mem_append_left _ (List.mem_of_getElem? (i := 184) rfl)) rfl, ⟨by decide +kernel, by decide +kernel, by decide +kernel⟩⟩
set_option maxRecDepth 20000 in
theorem ms_X4_leastSetting : Ms yX4_leastSetting cX4_leastSetting 1 (some .int) 1 := ⟨wg_in (List.mem_append_left _ (List.mem_of_getElem? (i := 186) rfl)) rfl, in_X4, wg_in (List.mem_append_left _ (List.mem_of_getElem? (i := 187) rfl)) rfl, ⟨by decide +kernel, by decide +kernel, by decide +kernel⟩⟩
set_option maxRecDepth 20000 in
theorem ms_X4_mostSetting : Ms yX4_mostSetting cX4_mostSetting 1 (some .int) 1 := ⟨wg_in (List.mem_append_left _ (List.mem_of_getElem? (i := 189) rfl)) rfl, in_X4, wg_in (List.mem_append_left _ (List.mem_of_getElem? (i := 190) rfl)) rfl, ⟨by decide +kernel, by decide +kernel, by decide +kernel⟩⟩
set_option maxRecDepth 20000 in
theorem mi_X4_tell : Mi yX4_tell cX4_tell 3 (some .int) 1 := ⟨wg_in (List.mem_append_left _ (List.mem_of_getElem? (i := 194) rfl)) rfl, wg_sel (List.mem_map.mpr ⟨_, (show (yX4_tell, _) ∈ lw_privs from (List.mem_append_left _ (List.mem_of_getElem? (i := 0) rfl))), rfl⟩) rfl, in_X4, wg_in (List.mem_append_left _ (List.mem_of_getElem? (i := 195) rfl)) rfl, ⟨by decide +kernel, by decide +kernel, by decide +kernel⟩⟩
set_option maxRecDepth 20000 in
theorem mi_X4_home : Mi yX4_home cX4_home 2 (some .int) 1 := ⟨wg_in (List.mem_append_left _ (List.mem_of_getElem? (i := 197) rfl)) rfl, wg_in (List.mem_append_left _ (List.mem_of_getElem? (i := 198) rfl)) rfl, in_X4, wg_in (List.mem_append_left _ (List.mem_of_getElem? (i := 199) rfl)) rfl, ⟨by decide +kernel, by decide +kernel, by decide +kernel⟩⟩
set_option maxRecDepth 20000 in
theorem mi_X4_visit : Mi yX4_visit cX4_visit 4 (some .int) 2 := ⟨wg_in (List.mem_append_left _ (List.mem_of_getElem? (i := 201) rfl)) rfl, wg_in (List.mem_append_left _ (List.mem_of_getElem? (i := 202) rfl)) rfl, in_X4, wg_in (List.mem_append_left _ (List.mem_of_getElem? (i := 203) rfl)) rfl, ⟨by decide +kernel, by decide +kernel, by decide +kernel⟩⟩
set_option maxRecDepth 20000 in
theorem mi_X4_visits : Mi yX4_visits cX4_visits 2 (some .int) 1 := ⟨wg_in (List.mem_append_left _ (List.mem_of_getElem? (i := 205) rfl)) rfl, wg_in (List.mem_append_left _ (List.mem_of_getElem? (i := 206) rfl)) rfl, in_X4, wg_in (List.mem_append_left _ (List.mem_of_getElem? (i := 207) rfl)) rfl, ⟨by decide +kernel, by decide +kernel, by decide +kernel⟩⟩
set_option maxRecDepth 20000 in
theorem mi_X4_resident : Mi yX4_resident cX4_resident 3 (some .int) 1 := ⟨wg_in (List.mem_append_left _ (List.mem_of_getElem? (i := 209) rfl)) rfl, wg_in (List.mem_append_left _ (List.mem_of_getElem? (i := 210) rfl)) rfl, in_X4, wg_in (List.mem_append_left _ (List.mem_of_getElem? (i := 211) rfl)) rfl, ⟨by decide +kernel, by decide +kernel, by decide +kernel⟩⟩
set_option maxRecDepth 20000 in
theorem mi_X0_welcome : Mi yX0_welcome cX0_welcome 3 (some .int) 1 := ⟨wg_in (List.mem_append_left _ (List.mem_of_getElem? (i := 213) rfl)) rfl, wg_in (List.mem_append_left _ (List.mem_of_getElem? (i := 214) rfl)) rfl, in_X0, wg_in (List.mem_append_left _ (List.mem_of_getElem? (i := 215) rfl)) rfl, ⟨by decide +kernel, by decide +kernel, by decide +kernel⟩⟩
set_option maxRecDepth 20000 in
theorem mi_X1_begin : Mi yX1_begin cX1_begin 2 none 1 := ⟨wg_in (List.mem_append_left _ (List.mem_of_getElem? (i := 217) rfl)) rfl, wg_in (List.mem_append_left _ (List.mem_of_getElem? (i := 218) rfl)) rfl, in_X1, wg_in (List.mem_append_left _ (List.mem_of_getElem? (i := 219) rfl)) rfl, ⟨by decide +kernel, by decide +kernel, by decide +kernel⟩⟩
set_option maxRecDepth 20000 in
theorem mi_X4_of : Mi yX4_of cX4_of 4 (some .int) 2 := ⟨wg_in (List.mem_append_left _ (List.mem_of_getElem? (i := 222) rfl)) rfl, wg_in (List.mem_append_left _ (List.mem_of_getElem? (i := 223) rfl)) rfl, in_X4, wg_in (List.mem_append_left _ (List.mem_of_getElem? (i := 224) rfl)) rfl, ⟨by decide +kernel, by decide +kernel, by decide +kernel⟩⟩
set_option maxRecDepth 20000 in
theorem mi_X0_has : Mi yX0_has cX0_has 2 (some .boolean) 1 := ⟨wg_in (List.mem_append_left _ (List.mem_of_getElem? (i := 226) rfl)) rfl, wg_in (List.mem_append_left _ (List.mem_of_getElem? (i := 227) rfl)) rfl, in_X0, wg_in (List.mem_append_left _ (List.mem_of_getElem? (i := 228) rfl)) rfl, ⟨by decide +kernel, by decide +kernel, by decide +kernel⟩⟩
set_option maxRecDepth 20000 in
theorem mi_X1_fact : Mi yX1_fact cX1_fact 2 (some .int) 1 := ⟨wg_in (List.mem_append_left _ (List.mem_of_getElem? (i := 231) rfl)) rfl, wg_in (List.mem_append_left _ (List.mem_of_getElem? (i := 232) rfl)) rfl, in_X1, wg_in (List.mem_append_left _ (List.mem_of_getElem? (i := 233) rfl)) rfl, ⟨by decide +kernel, by decide +kernel, by decide +kernel⟩⟩
set_option maxRecDepth 20000 in
theorem mi_X1_seats : Mi yX1_seats cX1_seats 2 (some .int) 0 := ⟨wg_in (List.mem_append_left _ (List.mem_of_getElem? (i := 235) rfl)) rfl, wg_in (List.mem_append_left _ (List.mem_of_getElem? (i := 236) rfl)) rfl, in_X1, wg_in (List.mem_append_left _ (List.mem_of_getElem? (i := 237) rfl)) rfl, ⟨by decide +kernel, by decide +kernel, by decide +kernel⟩⟩
set_option maxRecDepth 20000 in
theorem mi_X1_gains : Mi yX1_gains cX1_gains 3 (some .int) 1 := ⟨wg_in (List.mem_append_left _ (List.mem_of_getElem? (i := 239) rfl)) rfl, wg_in (List.mem_append_right _ (List.mem_append_left _ (List.mem_of_getElem? (i := 0) rfl))) rfl, in_X1, wg_in (List.mem_append_right _ (List.mem_append_left _ (List.mem_of_getElem? (i := 1) rfl))) rfl, ⟨by decide +kernel, by decide +kernel, by decide +kernel⟩⟩
set_option maxRecDepth 20000 in
theorem co_min : Cond.code Lib.Math.min.name Lib.Math.min.code 2 (some .int) ∈ wg_ok := wg_in (List.mem_append_right _ (List.mem_append_left _ (List.mem_of_getElem? (i := 4) rfl))) rfl
set_option maxRecDepth 20000 in
theorem st_min : Cond.static Lib.Math.min.name ∈ wg_ok := wg_in (List.mem_append_right _ (List.mem_append_left _ (List.mem_of_getElem? (i := 3) rfl))) rfl
set_option maxRecDepth 20000 in
theorem mi_X1_loses : Mi yX1_loses cX1_loses 3 (some .int) 1 := ⟨wg_in (List.mem_append_right _ (List.mem_append_left _ (List.mem_of_getElem? (i := 6) rfl))) rfl, wg_in (List.mem_append_right _ (List.mem_append_left _ (List.mem_of_getElem? (i := 7) rfl))) rfl, in_X1, wg_in (List.mem_append_right _ (List.mem_append_left _ (List.mem_of_getElem? (i := 8) rfl))) rfl, ⟨by decide +kernel, by decide +kernel, by decide +kernel⟩⟩
set_option maxRecDepth 20000 in
theorem mi_X1_shares : Mi yX1_shares cX1_shares 1 (some .boolean) 0 := ⟨wg_in (List.mem_append_right _ (List.mem_append_left _ (List.mem_of_getElem? (i := 10) rfl))) rfl, wg_in (List.mem_append_right _ (List.mem_append_left _ (List.mem_of_getElem? (i := 11) rfl))) rfl, in_X1, wg_in (List.mem_append_right _ (List.mem_append_left _ (List.mem_of_getElem? (i := 12) rfl))) rfl, ⟨by decide +kernel, by decide +kernel, by decide +kernel⟩⟩
set_option maxRecDepth 20000 in
theorem mi_X4_change : Mi yX4_change cX4_change 6 (some .int) 3 := ⟨wg_in (List.mem_append_right _ (List.mem_append_left _ (List.mem_of_getElem? (i := 14) rfl))) rfl, wg_in (List.mem_append_right _ (List.mem_append_left _ (List.mem_of_getElem? (i := 15) rfl))) rfl, in_X4, wg_in (List.mem_append_right _ (List.mem_append_left _ (List.mem_of_getElem? (i := 16) rfl))) rfl, ⟨by decide +kernel, by decide +kernel, by decide +kernel⟩⟩
set_option maxRecDepth 20000 in
theorem mi_X0_factFits : Mi yX0_factFits cX0_factFits 4 (some .boolean) 3 := ⟨wg_in (List.mem_append_right _ (List.mem_append_left _ (List.mem_of_getElem? (i := 18) rfl))) rfl, wg_in (List.mem_append_right _ (List.mem_append_left _ (List.mem_of_getElem? (i := 19) rfl))) rfl, in_X0, wg_in (List.mem_append_right _ (List.mem_append_left _ (List.mem_of_getElem? (i := 20) rfl))) rfl, ⟨by decide +kernel, by decide +kernel, by decide +kernel⟩⟩
set_option maxRecDepth 20000 in
theorem mi_X1_become : Mi yX1_become cX1_become 3 none 2 := ⟨wg_in (List.mem_append_right _ (List.mem_append_left _ (List.mem_of_getElem? (i := 23) rfl))) rfl, wg_in (List.mem_append_right _ (List.mem_append_left _ (List.mem_of_getElem? (i := 24) rfl))) rfl, in_X1, wg_in (List.mem_append_right _ (List.mem_append_left _ (List.mem_of_getElem? (i := 25) rfl))) rfl, ⟨by decide +kernel, by decide +kernel, by decide +kernel⟩⟩
set_option maxRecDepth 20000 in
theorem mi_X4_go : Mi yX4_go cX4_go 2 (some .int) 1 := ⟨wg_in (List.mem_append_right _ (List.mem_append_left _ (List.mem_of_getElem? (i := 27) rfl))) rfl, wg_in (List.mem_append_right _ (List.mem_append_left _ (List.mem_of_getElem? (i := 28) rfl))) rfl, in_X4, wg_in (List.mem_append_right _ (List.mem_append_left _ (List.mem_of_getElem? (i := 29) rfl))) rfl, ⟨by decide +kernel, by decide +kernel, by decide +kernel⟩⟩
set_option maxRecDepth 20000 in
theorem mi_X0_pass : Mi yX0_pass cX0_pass 3 none 1 := ⟨wg_in (List.mem_append_right _ (List.mem_append_left _ (List.mem_of_getElem? (i := 33) rfl))) rfl, wg_in (List.mem_append_right _ (List.mem_append_left _ (List.mem_of_getElem? (i := 34) rfl))) rfl, in_X0, wg_in (List.mem_append_right _ (List.mem_append_left _ (List.mem_of_getElem? (i := 35) rfl))) rfl, ⟨by decide +kernel, by decide +kernel, by decide +kernel⟩⟩
set_option maxRecDepth 20000 in
theorem mi_X0_passSunday : Mi yX0_passSunday cX0_passSunday 6 none 0 := ⟨wg_in (List.mem_append_right _ (List.mem_append_left _ (List.mem_of_getElem? (i := 37) rfl))) rfl, wg_in (List.mem_append_right _ (List.mem_append_left _ (List.mem_of_getElem? (i := 38) rfl))) rfl, in_X0, wg_in (List.mem_append_right _ (List.mem_append_left _ (List.mem_of_getElem? (i := 39) rfl))) rfl, ⟨by decide +kernel, by decide +kernel, by decide +kernel⟩⟩
set_option maxRecDepth 20000 in
theorem mi_X0_decide : Mi yX0_decide cX0_decide 1 none 0 := ⟨wg_in (List.mem_append_right _ (List.mem_append_left _ (List.mem_of_getElem? (i := 41) rfl))) rfl, wg_in (List.mem_append_right _ (List.mem_append_left _ (List.mem_of_getElem? (i := 42) rfl))) rfl, in_X0, wg_in (List.mem_append_right _ (List.mem_append_left _ (List.mem_of_getElem? (i := 43) rfl))) rfl, ⟨by decide +kernel, by decide +kernel, by decide +kernel⟩⟩
set_option maxRecDepth 20000 in
theorem mi_X0_seated : Mi yX0_seated cX0_seated 6 (some .int) 1 := ⟨wg_in (List.mem_append_right _ (List.mem_append_left _ (List.mem_of_getElem? (i := 45) rfl))) rfl, wg_in (List.mem_append_right _ (List.mem_append_left _ (List.mem_of_getElem? (i := 46) rfl))) rfl, in_X0, wg_in (List.mem_append_right _ (List.mem_append_left _ (List.mem_of_getElem? (i := 47) rfl))) rfl, ⟨by decide +kernel, by decide +kernel, by decide +kernel⟩⟩
set_option maxRecDepth 20000 in
theorem ms_X4_isIn : Ms yX4_isIn cX4_isIn 2 (some .boolean) 2 := ⟨wg_in (List.mem_append_right _ (List.mem_append_left _ (List.mem_of_getElem? (i := 50) rfl))) rfl, in_X4, wg_in (List.mem_append_right _ (List.mem_append_left _ (List.mem_of_getElem? (i := 51) rfl))) rfl, ⟨by decide +kernel, by decide +kernel, by decide +kernel⟩⟩
set_option maxRecDepth 20000 in
theorem mi_X0_sharers : Mi yX0_sharers cX0_sharers 4 (some .int) 0 := ⟨wg_in (List.mem_append_right _ (List.mem_append_left _ (List.mem_of_getElem? (i := 53) rfl))) rfl, wg_in (List.mem_append_right _ (List.mem_append_left _ (List.mem_of_getElem? (i := 54) rfl))) rfl, in_X0, wg_in (List.mem_append_right _ (List.mem_append_left _ (List.mem_of_getElem? (i := 55) rfl))) rfl, ⟨by decide +kernel, by decide +kernel, by decide +kernel⟩⟩
set_option maxRecDepth 20000 in
theorem mi_X0_volunteersTo : Mi yX0_volunteersTo cX0_volunteersTo 5 (some .int) 1 := ⟨wg_in (List.mem_append_right _ (List.mem_append_left _ (List.mem_of_getElem? (i := 58) rfl))) rfl, wg_in (List.mem_append_right _ (List.mem_append_left _ (List.mem_of_getElem? (i := 59) rfl))) rfl, in_X0, wg_in (List.mem_append_right _ (List.mem_append_left _ (List.mem_of_getElem? (i := 60) rfl))) rfl, ⟨by decide +kernel, by decide +kernel, by decide +kernel⟩⟩
set_option maxRecDepth 20000 in
theorem mi_X0_longestWaiting : Mi yX0_longestWaiting cX0_longestWaiting 5 (some .int) 1 := ⟨wg_in (List.mem_append_right _ (List.mem_append_left _ (List.mem_of_getElem? (i := 62) rfl))) rfl, wg_in (List.mem_append_right _ (List.mem_append_left _ (List.mem_of_getElem? (i := 63) rfl))) rfl, in_X0, wg_in (List.mem_append_right _ (List.mem_append_left _ (List.mem_of_getElem? (i := 64) rfl))) rfl, ⟨by decide +kernel, by decide +kernel, by decide +kernel⟩⟩
set_option maxRecDepth 20000 in
theorem ms_J6_bitCount_0f7a4 : Ms yJ6_bitCount_0f7a4 cJ6_bitCount_0f7a4 1 (some .int) 1 := ⟨wg_in (List.mem_append_right _ (List.mem_append_left _ (List.mem_of_getElem? (i := 66) rfl))) rfl, in_J6, wg_in (List.mem_append_right _ (List.mem_append_left _ (List.mem_of_getElem? (i := 67) rfl))) rfl, ⟨by decide +kernel, by decide +kernel, by decide +kernel⟩⟩
set_option maxRecDepth 20000 in
theorem mi_X1_beVisited : Mi yX1_beVisited cX1_beVisited 3 none 2 := ⟨wg_in (List.mem_append_right _ (List.mem_append_left _ (List.mem_of_getElem? (i := 72) rfl))) rfl, wg_in (List.mem_append_right _ (List.mem_append_left _ (List.mem_of_getElem? (i := 73) rfl))) rfl, in_X1, wg_in (List.mem_append_right _ (List.mem_append_left _ (List.mem_of_getElem? (i := 74) rfl))) rfl, ⟨by decide +kernel, by decide +kernel, by decide +kernel⟩⟩
set_option maxRecDepth 20000 in
theorem mi_X1_feel : Mi yX1_feel cX1_feel 2 none 1 := ⟨wg_in (List.mem_append_right _ (List.mem_append_left _ (List.mem_of_getElem? (i := 77) rfl))) rfl, wg_in (List.mem_append_right _ (List.mem_append_left _ (List.mem_of_getElem? (i := 78) rfl))) rfl, in_X1, wg_in (List.mem_append_right _ (List.mem_append_left _ (List.mem_of_getElem? (i := 79) rfl))) rfl, ⟨by decide +kernel, by decide +kernel, by decide +kernel⟩⟩
set_option maxRecDepth 20000 in
theorem co_max : Cond.code Lib.Math.max.name Lib.Math.max.code 2 (some .int) ∈ wg_ok := wg_in (List.mem_append_right _ (List.mem_append_left _ (List.mem_of_getElem? (i := 82) rfl))) rfl
set_option maxRecDepth 20000 in
theorem st_max : Cond.static Lib.Math.max.name ∈ wg_ok := wg_in (List.mem_append_right _ (List.mem_append_left _ (List.mem_of_getElem? (i := 81) rfl))) rfl
set_option maxRecDepth 20000 in
theorem mi_X1_beSharing : Mi yX1_beSharing cX1_beSharing 2 none 1 := ⟨wg_in (List.mem_append_right _ (List.mem_append_left _ (List.mem_of_getElem? (i := 84) rfl))) rfl, wg_in (List.mem_append_right _ (List.mem_append_left _ (List.mem_of_getElem? (i := 85) rfl))) rfl, in_X1, wg_in (List.mem_append_right _ (List.mem_append_left _ (List.mem_of_getElem? (i := 86) rfl))) rfl, ⟨by decide +kernel, by decide +kernel, by decide +kernel⟩⟩
set_option maxRecDepth 20000 in
theorem mi_X1_waitOn : Mi yX1_waitOn cX1_waitOn 1 none 0 := ⟨wg_in (List.mem_append_right _ (List.mem_append_left _ (List.mem_of_getElem? (i := 88) rfl))) rfl, wg_in (List.mem_append_right _ (List.mem_append_left _ (List.mem_of_getElem? (i := 89) rfl))) rfl, in_X1, wg_in (List.mem_append_right _ (List.mem_append_left _ (List.mem_of_getElem? (i := 90) rfl))) rfl, ⟨by decide +kernel, by decide +kernel, by decide +kernel⟩⟩
set_option maxRecDepth 20000 in
theorem mi_X1_beHelped : Mi yX1_beHelped cX1_beHelped 1 none 0 := ⟨wg_in (List.mem_append_right _ (List.mem_append_left _ (List.mem_of_getElem? (i := 92) rfl))) rfl, wg_in (List.mem_append_right _ (List.mem_append_left _ (List.mem_of_getElem? (i := 93) rfl))) rfl, in_X1, wg_in (List.mem_append_right _ (List.mem_append_left _ (List.mem_of_getElem? (i := 94) rfl))) rfl, ⟨by decide +kernel, by decide +kernel, by decide +kernel⟩⟩
set_option maxRecDepth 20000 in
theorem mi_X1_beAlone : Mi yX1_beAlone cX1_beAlone 2 none 1 := ⟨wg_in (List.mem_append_right _ (List.mem_append_left _ (List.mem_of_getElem? (i := 96) rfl))) rfl, wg_in (List.mem_append_right _ (List.mem_append_left _ (List.mem_of_getElem? (i := 97) rfl))) rfl, in_X1, wg_in (List.mem_append_right _ (List.mem_append_left _ (List.mem_of_getElem? (i := 98) rfl))) rfl, ⟨by decide +kernel, by decide +kernel, by decide +kernel⟩⟩
set_option maxRecDepth 20000 in
theorem mi_X0_moods : Mi yX0_moods cX0_moods 3 (some .int) 0 := ⟨wg_in (List.mem_append_right _ (List.mem_append_left _ (List.mem_of_getElem? (i := 103) rfl))) rfl, wg_in (List.mem_append_right _ (List.mem_append_left _ (List.mem_of_getElem? (i := 104) rfl))) rfl, in_X0, wg_in (List.mem_append_right _ (List.mem_append_left _ (List.mem_of_getElem? (i := 105) rfl))) rfl, ⟨by decide +kernel, by decide +kernel, by decide +kernel⟩⟩
set_option maxRecDepth 20000 in
theorem mi_X4_now : Mi yX4_now cX4_now 2 (some .int) 1 := ⟨wg_in (List.mem_append_right _ (List.mem_append_left _ (List.mem_of_getElem? (i := 107) rfl))) rfl, wg_in (List.mem_append_right _ (List.mem_append_left _ (List.mem_of_getElem? (i := 108) rfl))) rfl, in_X4, wg_in (List.mem_append_right _ (List.mem_append_left _ (List.mem_of_getElem? (i := 109) rfl))) rfl, ⟨by decide +kernel, by decide +kernel, by decide +kernel⟩⟩
set_option maxRecDepth 20000 in
theorem mi_X0_wellOnes : Mi yX0_wellOnes cX0_wellOnes 3 (some .int) 0 := ⟨wg_in (List.mem_append_right _ (List.mem_append_left _ (List.mem_of_getElem? (i := 111) rfl))) rfl, wg_in (List.mem_append_right _ (List.mem_append_left _ (List.mem_of_getElem? (i := 112) rfl))) rfl, in_X0, wg_in (List.mem_append_right _ (List.mem_append_left _ (List.mem_of_getElem? (i := 113) rfl))) rfl, ⟨by decide +kernel, by decide +kernel, by decide +kernel⟩⟩
set_option maxRecDepth 20000 in
theorem mi_X1_isWell : Mi yX1_isWell cX1_isWell 1 (some .boolean) 0 := ⟨wg_in (List.mem_append_right _ (List.mem_append_left _ (List.mem_of_getElem? (i := 115) rfl))) rfl, wg_in (List.mem_append_right _ (List.mem_append_left _ (List.mem_of_getElem? (i := 116) rfl))) rfl, in_X1, wg_in (List.mem_append_right _ (List.mem_append_left _ (List.mem_of_getElem? (i := 117) rfl))) rfl, ⟨by decide +kernel, by decide +kernel, by decide +kernel⟩⟩
set_option maxRecDepth 20000 in
theorem mi_X0_visitsHad : Mi yX0_visitsHad cX0_visitsHad 3 (some .int) 0 := ⟨wg_in (List.mem_append_right _ (List.mem_append_left _ (List.mem_of_getElem? (i := 121) rfl))) rfl, wg_in (List.mem_append_right _ (List.mem_append_left _ (List.mem_of_getElem? (i := 122) rfl))) rfl, in_X0, wg_in (List.mem_append_right _ (List.mem_append_left _ (List.mem_of_getElem? (i := 123) rfl))) rfl, ⟨by decide +kernel, by decide +kernel, by decide +kernel⟩⟩
set_option maxRecDepth 20000 in
theorem mi_X4_ahead : Mi yX4_ahead cX4_ahead 5 (some .int) 3 := ⟨wg_in (List.mem_append_right _ (List.mem_append_left _ (List.mem_of_getElem? (i := 125) rfl))) rfl, wg_in (List.mem_append_right _ (List.mem_append_left _ (List.mem_of_getElem? (i := 126) rfl))) rfl, in_X4, wg_in (List.mem_append_right _ (List.mem_append_left _ (List.mem_of_getElem? (i := 127) rfl))) rfl, ⟨by decide +kernel, by decide +kernel, by decide +kernel⟩⟩
set_option maxRecDepth 20000 in
theorem mi_X4_beginTrial : Mi yX4_beginTrial cX4_beginTrial 1 none 0 := ⟨wg_in (List.mem_append_right _ (List.mem_append_left _ (List.mem_of_getElem? (i := 130) rfl))) rfl, wg_sel (List.mem_map.mpr ⟨_, (show (yX4_beginTrial, _) ∈ lw_privs from (List.mem_append_left _ (List.mem_of_getElem? (i := 1) rfl))), rfl⟩) rfl, in_X4, wg_in (List.mem_append_right _ (List.mem_append_left _ (List.mem_of_getElem? (i := 131) rfl))) rfl, ⟨by decide +kernel, by decide +kernel, by decide +kernel⟩⟩
set_option maxRecDepth 20000 in
theorem mi_X0_takeAll : Mi yX0_takeAll cX0_takeAll 3 none 1 := ⟨wg_in (List.mem_append_right _ (List.mem_append_left _ (List.mem_of_getElem? (i := 133) rfl))) rfl, wg_in (List.mem_append_right _ (List.mem_append_left _ (List.mem_of_getElem? (i := 134) rfl))) rfl, in_X0, wg_in (List.mem_append_right _ (List.mem_append_left _ (List.mem_of_getElem? (i := 135) rfl))) rfl, ⟨by decide +kernel, by decide +kernel, by decide +kernel⟩⟩
set_option maxRecDepth 20000 in
theorem mi_X1_take : Mi yX1_take cX1_take 2 none 1 := ⟨wg_in (List.mem_append_right _ (List.mem_append_left _ (List.mem_of_getElem? (i := 140) rfl))) rfl, wg_in (List.mem_append_right _ (List.mem_append_left _ (List.mem_of_getElem? (i := 141) rfl))) rfl, in_X1, wg_in (List.mem_append_right _ (List.mem_append_left _ (List.mem_of_getElem? (i := 142) rfl))) rfl, ⟨by decide +kernel, by decide +kernel, by decide +kernel⟩⟩
set_option maxRecDepth 20000 in
theorem mi_X4_glad : Mi yX4_glad cX4_glad 3 (some .int) 2 := ⟨wg_in (List.mem_append_right _ (List.mem_append_left _ (List.mem_of_getElem? (i := 144) rfl))) rfl, wg_in (List.mem_append_right _ (List.mem_append_left _ (List.mem_of_getElem? (i := 145) rfl))) rfl, in_X4, wg_in (List.mem_append_right _ (List.mem_append_left _ (List.mem_of_getElem? (i := 146) rfl))) rfl, ⟨by decide +kernel, by decide +kernel, by decide +kernel⟩⟩
set_option maxRecDepth 20000 in
theorem mi_X4_firstSunday : Mi yX4_firstSunday cX4_firstSunday 5 (some .int) 3 := ⟨wg_in (List.mem_append_right _ (List.mem_append_left _ (List.mem_of_getElem? (i := 149) rfl))) rfl, wg_sel (List.mem_map.mpr ⟨_, (show (yX4_firstSunday, _) ∈ lw_privs from (List.mem_append_left _ (List.mem_of_getElem? (i := 2) rfl))), rfl⟩) rfl, in_X4, wg_in (List.mem_append_right _ (List.mem_append_left _ (List.mem_of_getElem? (i := 150) rfl))) rfl, ⟨by decide +kernel, by decide +kernel, by decide +kernel⟩⟩
set_option maxRecDepth 20000 in
theorem mi_X1_reaches : Mi yX1_reaches cX1_reaches 3 (some .boolean) 2 := ⟨wg_in (List.mem_append_right _ (List.mem_append_left _ (List.mem_of_getElem? (i := 152) rfl))) rfl, wg_in (List.mem_append_right _ (List.mem_append_left _ (List.mem_of_getElem? (i := 153) rfl))) rfl, in_X1, wg_in (List.mem_append_right _ (List.mem_append_left _ (List.mem_of_getElem? (i := 154) rfl))) rfl, ⟨by decide +kernel, by decide +kernel, by decide +kernel⟩⟩
set_option maxRecDepth 20000 in
theorem mi_X4_sad : Mi yX4_sad cX4_sad 3 (some .int) 2 := ⟨wg_in (List.mem_append_right _ (List.mem_append_left _ (List.mem_of_getElem? (i := 158) rfl))) rfl, wg_in (List.mem_append_right _ (List.mem_append_left _ (List.mem_of_getElem? (i := 159) rfl))) rfl, in_X4, wg_in (List.mem_append_right _ (List.mem_append_left _ (List.mem_of_getElem? (i := 160) rfl))) rfl, ⟨by decide +kernel, by decide +kernel, by decide +kernel⟩⟩
set_option maxRecDepth 20000 in
theorem mi_X4_when : Mi yX4_when cX4_when 3 (some .int) 2 := ⟨wg_in (List.mem_append_right _ (List.mem_append_left _ (List.mem_of_getElem? (i := 162) rfl))) rfl, wg_in (List.mem_append_right _ (List.mem_append_left _ (List.mem_of_getElem? (i := 163) rfl))) rfl, in_X4, wg_in (List.mem_append_right _ (List.mem_append_left _ (List.mem_of_getElem? (i := 164) rfl))) rfl, ⟨by decide +kernel, by decide +kernel, by decide +kernel⟩⟩
set_option maxRecDepth 20000 in
theorem mi_X4_well : Mi yX4_well cX4_well 2 (some .int) 0 := ⟨wg_in (List.mem_append_right _ (List.mem_append_left _ (List.mem_of_getElem? (i := 166) rfl))) rfl, wg_in (List.mem_append_right _ (List.mem_append_left _ (List.mem_of_getElem? (i := 167) rfl))) rfl, in_X4, wg_in (List.mem_append_right _ (List.mem_append_left _ (List.mem_of_getElem? (i := 168) rfl))) rfl, ⟨by decide +kernel, by decide +kernel, by decide +kernel⟩⟩
set_option maxRecDepth 20000 in
theorem mi_X4_longFor : Mi yX4_longFor cX4_longFor 6 (some .int) 1 := ⟨wg_in (List.mem_append_right _ (List.mem_append_left _ (List.mem_of_getElem? (i := 171) rfl))) rfl, wg_in (List.mem_append_right _ (List.mem_append_left _ (List.mem_of_getElem? (i := 172) rfl))) rfl, in_X4, wg_in (List.mem_append_right _ (List.mem_append_left _ (List.mem_of_getElem? (i := 173) rfl))) rfl, ⟨by decide +kernel, by decide +kernel, by decide +kernel⟩⟩
set_option maxRecDepth 20000 in
theorem mi_X4_tryWith : Mi yX4_tryWith cX4_tryWith 4 none 3 := ⟨wg_in (List.mem_append_right _ (List.mem_append_left _ (List.mem_of_getElem? (i := 176) rfl))) rfl, wg_sel (List.mem_map.mpr ⟨_, (show (yX4_tryWith, _) ∈ lw_privs from (List.mem_append_left _ (List.mem_of_getElem? (i := 3) rfl))), rfl⟩) rfl, in_X4, wg_in (List.mem_append_right _ (List.mem_append_left _ (List.mem_of_getElem? (i := 177) rfl))) rfl, ⟨by decide +kernel, by decide +kernel, by decide +kernel⟩⟩
set_option maxRecDepth 20000 in
theorem mi_X4_chairsFor : Mi yX4_chairsFor cX4_chairsFor 4 (some .int) 2 := ⟨wg_in (List.mem_append_right _ (List.mem_append_left _ (List.mem_of_getElem? (i := 179) rfl))) rfl, wg_in (List.mem_append_right _ (List.mem_append_left _ (List.mem_of_getElem? (i := 180) rfl))) rfl, in_X4, wg_in (List.mem_append_right _ (List.mem_append_left _ (List.mem_of_getElem? (i := 181) rfl))) rfl, ⟨by decide +kernel, by decide +kernel, by decide +kernel⟩⟩
set_option maxRecDepth 20000 in
theorem mi_X4_volunteersFor : Mi yX4_volunteersFor cX4_volunteersFor 4 (some .int) 2 := ⟨wg_in (List.mem_append_right _ (List.mem_append_left _ (List.mem_of_getElem? (i := 183) rfl))) rfl, wg_in (List.mem_append_right _ (List.mem_append_left _ (List.mem_of_getElem? (i := 184) rfl))) rfl, in_X4, wg_in (List.mem_append_right _ (List.mem_append_left _ (List.mem_of_getElem? (i := 185) rfl))) rfl, ⟨by decide +kernel, by decide +kernel, by decide +kernel⟩⟩
set_option maxRecDepth 20000 in
theorem mi_X0_lowestMood : Mi yX0_lowestMood cX0_lowestMood 3 (some .int) 0 := ⟨wg_in (List.mem_append_right _ (List.mem_append_left _ (List.mem_of_getElem? (i := 187) rfl))) rfl, wg_in (List.mem_append_right _ (List.mem_append_left _ (List.mem_of_getElem? (i := 188) rfl))) rfl, in_X0, wg_in (List.mem_append_right _ (List.mem_append_left _ (List.mem_of_getElem? (i := 189) rfl))) rfl, ⟨by decide +kernel, by decide +kernel, by decide +kernel⟩⟩
set_option maxRecDepth 20000 in
theorem mi_X4_comeOn : Mi yX4_comeOn cX4_comeOn 3 (some .int) 2 := ⟨wg_in (List.mem_append_right _ (List.mem_append_left _ (List.mem_of_getElem? (i := 191) rfl))) rfl, wg_in (List.mem_append_right _ (List.mem_append_left _ (List.mem_of_getElem? (i := 192) rfl))) rfl, in_X4, wg_in (List.mem_append_right _ (List.mem_append_left _ (List.mem_of_getElem? (i := 193) rfl))) rfl, ⟨by decide +kernel, by decide +kernel, by decide +kernel⟩⟩
set_option maxRecDepth 20000 in
theorem mi_X4_bestChoice : Mi yX4_bestChoice cX4_bestChoice 9 (some .int) 4 := ⟨wg_in (List.mem_append_right _ (List.mem_append_left _ (List.mem_of_getElem? (i := 196) rfl))) rfl, wg_sel (List.mem_map.mpr ⟨_, (show (yX4_bestChoice, _) ∈ lw_privs from (List.mem_append_left _ (List.mem_of_getElem? (i := 4) rfl))), rfl⟩) rfl, in_X4, wg_in (List.mem_append_right _ (List.mem_append_left _ (List.mem_of_getElem? (i := 197) rfl))) rfl, ⟨by decide +kernel, by decide +kernel, by decide +kernel⟩⟩
set_option maxRecDepth 20000 in
theorem mi_X4_suppose : Mi yX4_suppose cX4_suppose 4 none 3 := ⟨wg_in (List.mem_append_right _ (List.mem_append_left _ (List.mem_of_getElem? (i := 200) rfl))) rfl, wg_sel (List.mem_map.mpr ⟨_, (show (yX4_suppose, _) ∈ lw_privs from (List.mem_append_left _ (List.mem_of_getElem? (i := 5) rfl))), rfl⟩) rfl, in_X4, wg_in (List.mem_append_right _ (List.mem_append_left _ (List.mem_of_getElem? (i := 201) rfl))) rfl, ⟨by decide +kernel, by decide +kernel, by decide +kernel⟩⟩
set_option maxRecDepth 20000 in
theorem mi_X4_friendOfChoice : Mi yX4_friendOfChoice cX4_friendOfChoice 4 (some .int) 2 := ⟨wg_in (List.mem_append_right _ (List.mem_append_left _ (List.mem_of_getElem? (i := 204) rfl))) rfl, wg_sel (List.mem_map.mpr ⟨_, (show (yX4_friendOfChoice, _) ∈ lw_privs from (List.mem_append_left _ (List.mem_of_getElem? (i := 6) rfl))), rfl⟩) rfl, in_X4, wg_in (List.mem_append_right _ (List.mem_append_left _ (List.mem_of_getElem? (i := 205) rfl))) rfl, ⟨by decide +kernel, by decide +kernel, by decide +kernel⟩⟩
set_option maxRecDepth 20000 in
theorem mi_X4_kindFor : Mi yX4_kindFor cX4_kindFor 3 (some .int) 2 := ⟨wg_in (List.mem_append_right _ (List.mem_append_left _ (List.mem_of_getElem? (i := 207) rfl))) rfl, wg_in (List.mem_append_right _ (List.mem_append_left _ (List.mem_of_getElem? (i := 208) rfl))) rfl, in_X4, wg_in (List.mem_append_right _ (List.mem_append_left _ (List.mem_of_getElem? (i := 209) rfl))) rfl, ⟨by decide +kernel, by decide +kernel, by decide +kernel⟩⟩
set_option maxRecDepth 20000 in
theorem mi_X4_friendFor : Mi yX4_friendFor cX4_friendFor 4 (some .int) 2 := ⟨wg_in (List.mem_append_right _ (List.mem_append_left _ (List.mem_of_getElem? (i := 211) rfl))) rfl, wg_in (List.mem_append_right _ (List.mem_append_left _ (List.mem_of_getElem? (i := 212) rfl))) rfl, in_X4, wg_in (List.mem_append_right _ (List.mem_append_left _ (List.mem_of_getElem? (i := 213) rfl))) rfl, ⟨by decide +kernel, by decide +kernel, by decide +kernel⟩⟩
set_option maxRecDepth 20000 in
theorem mi_X4_away : Mi yX4_away cX4_away 6 (some .int) 2 := ⟨wg_in (List.mem_append_right _ (List.mem_append_left _ (List.mem_of_getElem? (i := 215) rfl))) rfl, wg_in (List.mem_append_right _ (List.mem_append_left _ (List.mem_of_getElem? (i := 216) rfl))) rfl, in_X4, wg_in (List.mem_append_right _ (List.mem_append_left _ (List.mem_of_getElem? (i := 217) rfl))) rfl, ⟨by decide +kernel, by decide +kernel, by decide +kernel⟩⟩
set_option maxRecDepth 20000 in
theorem mi_X0_keepAway : Mi yX0_keepAway cX0_keepAway 3 none 1 := ⟨wg_in (List.mem_append_right _ (List.mem_append_left _ (List.mem_of_getElem? (i := 220) rfl))) rfl, wg_in (List.mem_append_right _ (List.mem_append_left _ (List.mem_of_getElem? (i := 221) rfl))) rfl, in_X0, wg_in (List.mem_append_right _ (List.mem_append_left _ (List.mem_of_getElem? (i := 222) rfl))) rfl, ⟨by decide +kernel, by decide +kernel, by decide +kernel⟩⟩
set_option maxRecDepth 20000 in
theorem mi_X4_fits : Mi yX4_fits cX4_fits 6 (some .int) 2 := ⟨wg_in (List.mem_append_right _ (List.mem_append_left _ (List.mem_of_getElem? (i := 225) rfl))) rfl, wg_in (List.mem_append_right _ (List.mem_append_left _ (List.mem_of_getElem? (i := 226) rfl))) rfl, in_X4, wg_in (List.mem_append_right _ (List.mem_append_left _ (List.mem_of_getElem? (i := 227) rfl))) rfl, ⟨by decide +kernel, by decide +kernel, by decide +kernel⟩⟩
set_option maxRecDepth 20000 in
theorem mi_X4_lackFor : Mi yX4_lackFor cX4_lackFor 4 (some .int) 2 := ⟨wg_in (List.mem_append_right _ (List.mem_append_left _ (List.mem_of_getElem? (i := 230) rfl))) rfl, wg_sel (List.mem_map.mpr ⟨_, (show (yX4_lackFor, _) ∈ lw_privs from (List.mem_append_left _ (List.mem_of_getElem? (i := 7) rfl))), rfl⟩) rfl, in_X4, wg_in (List.mem_append_right _ (List.mem_append_left _ (List.mem_of_getElem? (i := 231) rfl))) rfl, ⟨by decide +kernel, by decide +kernel, by decide +kernel⟩⟩
set_option maxRecDepth 20000 in
theorem mi_X4_lackOf : Mi yX4_lackOf cX4_lackOf 2 (some .int) 1 := ⟨wg_in (List.mem_append_right _ (List.mem_append_left _ (List.mem_of_getElem? (i := 234) rfl))) rfl, wg_sel (List.mem_map.mpr ⟨_, (show (yX4_lackOf, _) ∈ lw_privs from (List.mem_append_left _ (List.mem_of_getElem? (i := 8) rfl))), rfl⟩) rfl, in_X4, wg_in (List.mem_append_right _ (List.mem_append_left _ (List.mem_of_getElem? (i := 235) rfl))) rfl, ⟨by decide +kernel, by decide +kernel, by decide +kernel⟩⟩
set_option maxRecDepth 20000 in
theorem mi_X2_isMissing : Mi yX2_isMissing cX2_isMissing 1 (some .boolean) 0 := ⟨wg_in (List.mem_append_right _ (List.mem_append_left _ (List.mem_of_getElem? (i := 237) rfl))) rfl, wg_in (List.mem_append_right _ (List.mem_append_left _ (List.mem_of_getElem? (i := 238) rfl))) rfl, in_X2, wg_in (List.mem_append_right _ (List.mem_append_left _ (List.mem_of_getElem? (i := 239) rfl))) rfl, ⟨by decide +kernel, by decide +kernel, by decide +kernel⟩⟩
set_option maxRecDepth 20000 in
theorem mi_X4_moodFits : Mi yX4_moodFits cX4_moodFits 4 (some .boolean) 3 := ⟨wg_in (List.mem_append_right _ (List.mem_append_right _ (List.mem_append_left _ (List.mem_of_getElem? (i := 3) rfl)))) rfl, wg_sel (List.mem_map.mpr ⟨_, (show (yX4_moodFits, _) ∈ lw_privs from (List.mem_append_left _ (List.mem_of_getElem? (i := 9) rfl))), rfl⟩) rfl, in_X4, wg_in (List.mem_append_right _ (List.mem_append_right _ (List.mem_append_left _ (List.mem_of_getElem? (i := 4) rfl)))) rfl, ⟨by decide +kernel, by decide +kernel, by decide +kernel⟩⟩
set_option maxRecDepth 20000 in
theorem mi_X4_goesAsTold : Mi yX4_goesAsTold cX4_goesAsTold 6 (some .boolean) 3 := ⟨wg_in (List.mem_append_right _ (List.mem_append_right _ (List.mem_append_left _ (List.mem_of_getElem? (i := 7) rfl)))) rfl, wg_sel (List.mem_map.mpr ⟨_, (show (yX4_goesAsTold, _) ∈ lw_privs from (List.mem_append_left _ (List.mem_of_getElem? (i := 10) rfl))), rfl⟩) rfl, in_X4, wg_in (List.mem_append_right _ (List.mem_append_right _ (List.mem_append_left _ (List.mem_of_getElem? (i := 8) rfl)))) rfl, ⟨by decide +kernel, by decide +kernel, by decide +kernel⟩⟩
set_option maxRecDepth 20000 in
theorem mi_X1_wellSign : Mi yX1_wellSign cX1_wellSign 1 (some .int) 0 := ⟨wg_in (List.mem_append_right _ (List.mem_append_right _ (List.mem_append_left _ (List.mem_of_getElem? (i := 10) rfl)))) rfl, wg_in (List.mem_append_right _ (List.mem_append_right _ (List.mem_append_left _ (List.mem_of_getElem? (i := 11) rfl)))) rfl, in_X1, wg_in (List.mem_append_right _ (List.mem_append_right _ (List.mem_append_left _ (List.mem_of_getElem? (i := 12) rfl)))) rfl, ⟨by decide +kernel, by decide +kernel, by decide +kernel⟩⟩
set_option maxRecDepth 20000 in
theorem mi_X4_mood : Mi yX4_mood cX4_mood 5 (some .int) 2 := ⟨wg_in (List.mem_append_right _ (List.mem_append_right _ (List.mem_append_left _ (List.mem_of_getElem? (i := 15) rfl)))) rfl, wg_in (List.mem_append_right _ (List.mem_append_right _ (List.mem_append_left _ (List.mem_of_getElem? (i := 16) rfl)))) rfl, in_X4, wg_in (List.mem_append_right _ (List.mem_append_right _ (List.mem_append_left _ (List.mem_of_getElem? (i := 17) rfl)))) rfl, ⟨by decide +kernel, by decide +kernel, by decide +kernel⟩⟩
set_option maxRecDepth 20000 in
theorem mi_X4_kinds : Mi yX4_kinds cX4_kinds 6 (some .int) 2 := ⟨wg_in (List.mem_append_right _ (List.mem_append_right _ (List.mem_append_left _ (List.mem_of_getElem? (i := 19) rfl)))) rfl, wg_in (List.mem_append_right _ (List.mem_append_right _ (List.mem_append_left _ (List.mem_of_getElem? (i := 20) rfl)))) rfl, in_X4, wg_in (List.mem_append_right _ (List.mem_append_right _ (List.mem_append_left _ (List.mem_of_getElem? (i := 21) rfl)))) rfl, ⟨by decide +kernel, by decide +kernel, by decide +kernel⟩⟩
set_option maxRecDepth 20000 in
theorem mi_X4_kindFits : Mi yX4_kindFits cX4_kindFits 4 (some .boolean) 3 := ⟨wg_in (List.mem_append_right _ (List.mem_append_right _ (List.mem_append_left _ (List.mem_of_getElem? (i := 24) rfl)))) rfl, wg_sel (List.mem_map.mpr ⟨_, (show (yX4_kindFits, _) ∈ lw_privs from (List.mem_append_left _ (List.mem_of_getElem? (i := 11) rfl))), rfl⟩) rfl, in_X4, wg_in (List.mem_append_right _ (List.mem_append_right _ (List.mem_append_left _ (List.mem_of_getElem? (i := 25) rfl)))) rfl, ⟨by decide +kernel, by decide +kernel, by decide +kernel⟩⟩
set_option maxRecDepth 20000 in
theorem mi_X4_come : Mi yX4_come cX4_come 3 (some .int) 1 := ⟨wg_in (List.mem_append_right _ (List.mem_append_right _ (List.mem_append_left _ (List.mem_of_getElem? (i := 27) rfl)))) rfl, wg_in (List.mem_append_right _ (List.mem_append_right _ (List.mem_append_left _ (List.mem_of_getElem? (i := 28) rfl)))) rfl, in_X4, wg_in (List.mem_append_right _ (List.mem_append_right _ (List.mem_append_left _ (List.mem_of_getElem? (i := 29) rfl)))) rfl, ⟨by decide +kernel, by decide +kernel, by decide +kernel⟩⟩
set_option maxRecDepth 20000 in
theorem mi_X0_draw : Mi yX0_draw cX0_draw 1 (some .int) 0 := ⟨wg_in (List.mem_append_right _ (List.mem_append_right _ (List.mem_append_left _ (List.mem_of_getElem? (i := 31) rfl)))) rfl, wg_in (List.mem_append_right _ (List.mem_append_right _ (List.mem_append_left _ (List.mem_of_getElem? (i := 32) rfl)))) rfl, in_X0, wg_in (List.mem_append_right _ (List.mem_append_right _ (List.mem_append_left _ (List.mem_of_getElem? (i := 33) rfl)))) rfl, ⟨by decide +kernel, by decide +kernel, by decide +kernel⟩⟩
set_option maxRecDepth 20000 in
theorem mi_X4_odds : Mi yX4_odds cX4_odds 6 (some .long) 3 := ⟨wg_in (List.mem_append_right _ (List.mem_append_right _ (List.mem_append_left _ (List.mem_of_getElem? (i := 36) rfl)))) rfl, wg_in (List.mem_append_right _ (List.mem_append_right _ (List.mem_append_left _ (List.mem_of_getElem? (i := 37) rfl)))) rfl, in_X4, wg_in (List.mem_append_right _ (List.mem_append_right _ (List.mem_append_left _ (List.mem_of_getElem? (i := 38) rfl)))) rfl, ⟨by decide +kernel, by decide +kernel, by decide +kernel⟩⟩
set_option maxRecDepth 20000 in
theorem ms_X4_power : Ms yX4_power cX4_power 5 (some .long) 2 := ⟨wg_in (List.mem_append_right _ (List.mem_append_right _ (List.mem_append_left _ (List.mem_of_getElem? (i := 41) rfl)))) rfl, in_X4, wg_in (List.mem_append_right _ (List.mem_append_right _ (List.mem_append_left _ (List.mem_of_getElem? (i := 42) rfl)))) rfl, ⟨by decide +kernel, by decide +kernel, by decide +kernel⟩⟩
set_option maxRecDepth 20000 in
theorem mi_X4_seed : Mi yX4_seed cX4_seed 3 (some .int) 1 := ⟨wg_in (List.mem_append_right _ (List.mem_append_right _ (List.mem_append_left _ (List.mem_of_getElem? (i := 44) rfl)))) rfl, wg_in (List.mem_append_right _ (List.mem_append_right _ (List.mem_append_left _ (List.mem_of_getElem? (i := 45) rfl)))) rfl, in_X4, wg_in (List.mem_append_right _ (List.mem_append_right _ (List.mem_append_left _ (List.mem_of_getElem? (i := 46) rfl)))) rfl, ⟨by decide +kernel, by decide +kernel, by decide +kernel⟩⟩
set_option maxRecDepth 20000 in
theorem mi_X4_feed : Mi yX4_feed cX4_feed 4 (some .int) 2 := ⟨wg_in (List.mem_append_right _ (List.mem_append_right _ (List.mem_append_left _ (List.mem_of_getElem? (i := 48) rfl)))) rfl, wg_in (List.mem_append_right _ (List.mem_append_right _ (List.mem_append_left _ (List.mem_of_getElem? (i := 49) rfl)))) rfl, in_X4, wg_in (List.mem_append_right _ (List.mem_append_right _ (List.mem_append_left _ (List.mem_of_getElem? (i := 50) rfl)))) rfl, ⟨by decide +kernel, by decide +kernel, by decide +kernel⟩⟩
set_option maxRecDepth 20000 in
theorem mi_X3_append : Mi yX3_append cX3_append 2 none 1 := ⟨wg_in (List.mem_append_right _ (List.mem_append_right _ (List.mem_append_left _ (List.mem_of_getElem? (i := 52) rfl)))) rfl, wg_in (List.mem_append_right _ (List.mem_append_right _ (List.mem_append_left _ (List.mem_of_getElem? (i := 53) rfl)))) rfl, in_X3, wg_in (List.mem_append_right _ (List.mem_append_right _ (List.mem_append_left _ (List.mem_of_getElem? (i := 54) rfl)))) rfl, ⟨by decide +kernel, by decide +kernel, by decide +kernel⟩⟩
set_option maxRecDepth 20000 in
theorem mi_X4_wipe : Mi yX4_wipe cX4_wipe 2 (some .int) 0 := ⟨wg_in (List.mem_append_right _ (List.mem_append_right _ (List.mem_append_left _ (List.mem_of_getElem? (i := 56) rfl)))) rfl, wg_in (List.mem_append_right _ (List.mem_append_right _ (List.mem_append_left _ (List.mem_of_getElem? (i := 57) rfl)))) rfl, in_X4, wg_in (List.mem_append_right _ (List.mem_append_right _ (List.mem_append_left _ (List.mem_of_getElem? (i := 58) rfl)))) rfl, ⟨by decide +kernel, by decide +kernel, by decide +kernel⟩⟩
set_option maxRecDepth 20000 in
theorem mi_X4_text : Mi yX4_text cX4_text 2 (some .int) 0 := ⟨wg_in (List.mem_append_right _ (List.mem_append_right _ (List.mem_append_left _ (List.mem_of_getElem? (i := 60) rfl)))) rfl, wg_in (List.mem_append_right _ (List.mem_append_right _ (List.mem_append_left _ (List.mem_of_getElem? (i := 61) rfl)))) rfl, in_X4, wg_in (List.mem_append_right _ (List.mem_append_right _ (List.mem_append_left _ (List.mem_of_getElem? (i := 62) rfl)))) rfl, ⟨by decide +kernel, by decide +kernel, by decide +kernel⟩⟩
set_option maxRecDepth 20000 in
theorem mi_X3_readInto : Mi yX3_readInto cX3_readInto 3 (some .int) 1 := ⟨wg_in (List.mem_append_right _ (List.mem_append_right _ (List.mem_append_left _ (List.mem_of_getElem? (i := 64) rfl)))) rfl, wg_in (List.mem_append_right _ (List.mem_append_right _ (List.mem_append_left _ (List.mem_of_getElem? (i := 65) rfl)))) rfl, in_X3, wg_in (List.mem_append_right _ (List.mem_append_right _ (List.mem_append_left _ (List.mem_of_getElem? (i := 66) rfl)))) rfl, ⟨by decide +kernel, by decide +kernel, by decide +kernel⟩⟩
set_option maxRecDepth 20000 in
theorem mi_X3_step : Mi yX3_step cX3_step 1 none 0 := ⟨wg_in (List.mem_append_right _ (List.mem_append_right _ (List.mem_append_left _ (List.mem_of_getElem? (i := 68) rfl)))) rfl, wg_in (List.mem_append_right _ (List.mem_append_right _ (List.mem_append_left _ (List.mem_of_getElem? (i := 69) rfl)))) rfl, in_X3, wg_in (List.mem_append_right _ (List.mem_append_right _ (List.mem_append_left _ (List.mem_of_getElem? (i := 70) rfl)))) rfl, ⟨by decide +kernel, by decide +kernel, by decide +kernel⟩⟩
set_option maxRecDepth 20000 in
theorem ms_X3_tokenOf : Ms yX3_tokenOf cX3_tokenOf 1 (some .int) 1 := ⟨wg_in (List.mem_append_right _ (List.mem_append_right _ (List.mem_append_left _ (List.mem_of_getElem? (i := 72) rfl)))) rfl, in_X3, wg_in (List.mem_append_right _ (List.mem_append_right _ (List.mem_append_left _ (List.mem_of_getElem? (i := 73) rfl)))) rfl, ⟨by decide +kernel, by decide +kernel, by decide +kernel⟩⟩
set_option maxRecDepth 20000 in
theorem mi_X3_readItem : Mi yX3_readItem cX3_readItem 3 (some .boolean) 1 := ⟨wg_in (List.mem_append_right _ (List.mem_append_right _ (List.mem_append_left _ (List.mem_of_getElem? (i := 76) rfl)))) rfl, wg_in (List.mem_append_right _ (List.mem_append_right _ (List.mem_append_left _ (List.mem_of_getElem? (i := 77) rfl)))) rfl, in_X3, wg_in (List.mem_append_right _ (List.mem_append_right _ (List.mem_append_left _ (List.mem_of_getElem? (i := 78) rfl)))) rfl, ⟨by decide +kernel, by decide +kernel, by decide +kernel⟩⟩
set_option maxRecDepth 20000 in
theorem ms_X3_kindWord : Ms yX3_kindWord cX3_kindWord 1 (some (.object "java/lang/String")) 1 := ⟨wg_in (List.mem_append_right _ (List.mem_append_right _ (List.mem_append_left _ (List.mem_of_getElem? (i := 80) rfl)))) rfl, in_X3, wg_in (List.mem_append_right _ (List.mem_append_right _ (List.mem_append_left _ (List.mem_of_getElem? (i := 81) rfl)))) rfl, ⟨by decide +kernel, by decide +kernel, by decide +kernel⟩⟩
set_option maxRecDepth 20000 in
theorem mi_X3_isWord : Mi yX3_isWord cX3_isWord 3 (some .boolean) 1 := ⟨wg_in (List.mem_append_right _ (List.mem_append_right _ (List.mem_append_left _ (List.mem_of_getElem? (i := 90) rfl)))) rfl, wg_in (List.mem_append_right _ (List.mem_append_right _ (List.mem_append_left _ (List.mem_of_getElem? (i := 91) rfl)))) rfl, in_X3, wg_in (List.mem_append_right _ (List.mem_append_right _ (List.mem_append_left _ (List.mem_of_getElem? (i := 92) rfl)))) rfl, ⟨by decide +kernel, by decide +kernel, by decide +kernel⟩⟩
set_option maxRecDepth 20000 in
theorem mi_J0_length_8abf5 : Mi yJ0_length_8abf5 cJ0_length_8abf5 1 (some .int) 0 := ⟨wg_in (List.mem_append_right _ (List.mem_append_right _ (List.mem_append_left _ (List.mem_of_getElem? (i := 94) rfl)))) rfl, wg_in (List.mem_append_right _ (List.mem_append_right _ (List.mem_append_left _ (List.mem_of_getElem? (i := 95) rfl)))) rfl, in_J0, wg_in (List.mem_append_right _ (List.mem_append_right _ (List.mem_append_left _ (List.mem_of_getElem? (i := 96) rfl)))) rfl, ⟨by decide +kernel, by decide +kernel, by decide +kernel⟩⟩
set_option maxRecDepth 20000 in
theorem mi_J0_coder_7d493 : Mi yJ0_coder_7d493 cJ0_coder_7d493 1 (some .byte) 0 := ⟨wg_in (List.mem_append_right _ (List.mem_append_right _ (List.mem_append_left _ (List.mem_of_getElem? (i := 98) rfl)))) rfl, wg_in (List.mem_append_right _ (List.mem_append_right _ (List.mem_append_left _ (List.mem_of_getElem? (i := 99) rfl)))) rfl, in_J0, wg_in (List.mem_append_right _ (List.mem_append_right _ (List.mem_append_left _ (List.mem_of_getElem? (i := 100) rfl)))) rfl, ⟨by decide +kernel, by decide +kernel, by decide +kernel⟩⟩
set_option maxRecDepth 20000 in
theorem mi_J0_charAt_5068e : Mi yJ0_charAt_5068e cJ0_charAt_5068e 2 (some .char) 1 := ⟨wg_in (List.mem_append_right _ (List.mem_append_right _ (List.mem_append_left _ (List.mem_of_getElem? (i := 104) rfl)))) rfl, wg_in (List.mem_append_right _ (List.mem_append_right _ (List.mem_append_left _ (List.mem_of_getElem? (i := 105) rfl)))) rfl, in_J0, wg_in (List.mem_append_right _ (List.mem_append_right _ (List.mem_append_left _ (List.mem_of_getElem? (i := 106) rfl)))) rfl, ⟨by decide +kernel, by decide +kernel, by decide +kernel⟩⟩
set_option maxRecDepth 20000 in
theorem mi_J0_isLatin1_aae02 : Mi yJ0_isLatin1_aae02 cJ0_isLatin1_aae02 1 (some .boolean) 0 := ⟨wg_in (List.mem_append_right _ (List.mem_append_right _ (List.mem_append_left _ (List.mem_of_getElem? (i := 108) rfl)))) rfl, wg_in (List.mem_append_right _ (List.mem_append_right _ (List.mem_append_left _ (List.mem_of_getElem? (i := 109) rfl)))) rfl, in_J0, wg_in (List.mem_append_right _ (List.mem_append_right _ (List.mem_append_left _ (List.mem_of_getElem? (i := 110) rfl)))) rfl, ⟨by decide +kernel, by decide +kernel, by decide +kernel⟩⟩
set_option maxRecDepth 20000 in
theorem ms_J1_charAt_3b067 : Ms yJ1_charAt_3b067 cJ1_charAt_3b067 2 (some .char) 2 := ⟨wg_in (List.mem_append_right _ (List.mem_append_right _ (List.mem_append_left _ (List.mem_of_getElem? (i := 112) rfl)))) rfl, in_J1, wg_in (List.mem_append_right _ (List.mem_append_right _ (List.mem_append_left _ (List.mem_of_getElem? (i := 113) rfl)))) rfl, ⟨by decide +kernel, by decide +kernel, by decide +kernel⟩⟩
set_option maxRecDepth 20000 in
theorem ms_J0_checkIndex_df160 : Ms yJ0_checkIndex_df160 cJ0_checkIndex_df160 2 none 2 := ⟨wg_in (List.mem_append_right _ (List.mem_append_right _ (List.mem_append_left _ (List.mem_of_getElem? (i := 115) rfl)))) rfl, in_J0, wg_in (List.mem_append_right _ (List.mem_append_right _ (List.mem_append_left _ (List.mem_of_getElem? (i := 116) rfl)))) rfl, ⟨by decide +kernel, by decide +kernel, by decide +kernel⟩⟩
set_option maxRecDepth 20000 in
theorem ms_J3_checkIndex_8e157 : Ms yJ3_checkIndex_8e157 cJ3_checkIndex_8e157 3 (some .int) 3 := ⟨wg_in (List.mem_append_right _ (List.mem_append_right _ (List.mem_append_left _ (List.mem_of_getElem? (i := 120) rfl)))) rfl, in_J3, wg_in (List.mem_append_right _ (List.mem_append_right _ (List.mem_append_left _ (List.mem_of_getElem? (i := 121) rfl)))) rfl, ⟨by decide +kernel, by decide +kernel, by decide +kernel⟩⟩
set_option maxRecDepth 20000 in
theorem ms_J2_charAt_3b067 : Ms yJ2_charAt_3b067 cJ2_charAt_3b067 2 (some .char) 2 := ⟨wg_in (List.mem_append_right _ (List.mem_append_right _ (List.mem_append_left _ (List.mem_of_getElem? (i := 123) rfl)))) rfl, in_J2, wg_in (List.mem_append_right _ (List.mem_append_right _ (List.mem_append_left _ (List.mem_of_getElem? (i := 124) rfl)))) rfl, ⟨by decide +kernel, by decide +kernel, by decide +kernel⟩⟩
set_option maxRecDepth 20000 in
theorem ms_J2_checkIndex_2214a : Ms yJ2_checkIndex_2214a cJ2_checkIndex_2214a 2 none 2 := ⟨wg_in (List.mem_append_right _ (List.mem_append_right _ (List.mem_append_left _ (List.mem_of_getElem? (i := 126) rfl)))) rfl, in_J2, wg_in (List.mem_append_right _ (List.mem_append_right _ (List.mem_append_left _ (List.mem_of_getElem? (i := 127) rfl)))) rfl, ⟨by decide +kernel, by decide +kernel, by decide +kernel⟩⟩
set_option maxRecDepth 20000 in
theorem ms_J2_length_9d52b : Ms yJ2_length_9d52b cJ2_length_9d52b 1 (some .int) 1 := ⟨wg_in (List.mem_append_right _ (List.mem_append_right _ (List.mem_append_left _ (List.mem_of_getElem? (i := 129) rfl)))) rfl, in_J2, wg_in (List.mem_append_right _ (List.mem_append_right _ (List.mem_append_left _ (List.mem_of_getElem? (i := 130) rfl)))) rfl, ⟨by decide +kernel, by decide +kernel, by decide +kernel⟩⟩
set_option maxRecDepth 20000 in
theorem ms_J2_getChar_3b067 : Ms yJ2_getChar_3b067 cJ2_getChar_3b067 2 (some .char) 2 := ⟨wg_in (List.mem_append_right _ (List.mem_append_right _ (List.mem_append_left _ (List.mem_of_getElem? (i := 133) rfl)))) rfl, in_J2, wg_in (List.mem_append_right _ (List.mem_append_right _ (List.mem_append_left _ (List.mem_of_getElem? (i := 134) rfl)))) rfl, ⟨by decide +kernel, by decide +kernel, by decide +kernel⟩⟩
set_option maxRecDepth 20000 in
theorem mi_X3_readResident : Mi yX3_readResident cX3_readResident 5 (some .boolean) 2 := ⟨wg_in (List.mem_append_right _ (List.mem_append_right _ (List.mem_append_left _ (List.mem_of_getElem? (i := 142) rfl)))) rfl, wg_in (List.mem_append_right _ (List.mem_append_right _ (List.mem_append_left _ (List.mem_of_getElem? (i := 143) rfl)))) rfl, in_X3, wg_in (List.mem_append_right _ (List.mem_append_right _ (List.mem_append_left _ (List.mem_of_getElem? (i := 144) rfl)))) rfl, ⟨by decide +kernel, by decide +kernel, by decide +kernel⟩⟩
set_option maxRecDepth 20000 in
theorem mi_X3_readFact : Mi yX3_readFact cX3_readFact 5 (some .boolean) 4 := ⟨wg_in (List.mem_append_right _ (List.mem_append_right _ (List.mem_append_left _ (List.mem_of_getElem? (i := 148) rfl)))) rfl, wg_in (List.mem_append_right _ (List.mem_append_right _ (List.mem_append_left _ (List.mem_of_getElem? (i := 149) rfl)))) rfl, in_X3, wg_in (List.mem_append_right _ (List.mem_append_right _ (List.mem_append_left _ (List.mem_of_getElem? (i := 150) rfl)))) rfl, ⟨by decide +kernel, by decide +kernel, by decide +kernel⟩⟩
set_option maxRecDepth 20000 in
theorem mi_X3_isNumber : Mi yX3_isNumber cX3_isNumber 3 (some .boolean) 2 := ⟨wg_in (List.mem_append_right _ (List.mem_append_right _ (List.mem_append_left _ (List.mem_of_getElem? (i := 152) rfl)))) rfl, wg_in (List.mem_append_right _ (List.mem_append_right _ (List.mem_append_left _ (List.mem_of_getElem? (i := 153) rfl)))) rfl, in_X3, wg_in (List.mem_append_right _ (List.mem_append_right _ (List.mem_append_left _ (List.mem_of_getElem? (i := 154) rfl)))) rfl, ⟨by decide +kernel, by decide +kernel, by decide +kernel⟩⟩
set_option maxRecDepth 20000 in
theorem ms_X3_settingWord : Ms yX3_settingWord cX3_settingWord 1 (some (.object "java/lang/String")) 1 := ⟨wg_in (List.mem_append_right _ (List.mem_append_right _ (List.mem_append_left _ (List.mem_of_getElem? (i := 160) rfl)))) rfl, in_X3, wg_in (List.mem_append_right _ (List.mem_append_right _ (List.mem_append_left _ (List.mem_of_getElem? (i := 161) rfl)))) rfl, ⟨by decide +kernel, by decide +kernel, by decide +kernel⟩⟩
set_option maxRecDepth 20000 in
theorem mi_X3_readSetting : Mi yX3_readSetting cX3_readSetting 3 (some .boolean) 2 := ⟨wg_in (List.mem_append_right _ (List.mem_append_right _ (List.mem_append_left _ (List.mem_of_getElem? (i := 167) rfl)))) rfl, wg_in (List.mem_append_right _ (List.mem_append_right _ (List.mem_append_left _ (List.mem_of_getElem? (i := 168) rfl)))) rfl, in_X3, wg_in (List.mem_append_right _ (List.mem_append_right _ (List.mem_append_left _ (List.mem_of_getElem? (i := 169) rfl)))) rfl, ⟨by decide +kernel, by decide +kernel, by decide +kernel⟩⟩
set_option maxRecDepth 20000 in
theorem mi_X3_readVisits : Mi yX3_readVisits cX3_readVisits 3 (some .boolean) 1 := ⟨wg_in (List.mem_append_right _ (List.mem_append_right _ (List.mem_append_left _ (List.mem_of_getElem? (i := 174) rfl)))) rfl, wg_in (List.mem_append_right _ (List.mem_append_right _ (List.mem_append_left _ (List.mem_of_getElem? (i := 175) rfl)))) rfl, in_X3, wg_in (List.mem_append_right _ (List.mem_append_right _ (List.mem_append_left _ (List.mem_of_getElem? (i := 176) rfl)))) rfl, ⟨by decide +kernel, by decide +kernel, by decide +kernel⟩⟩
set_option maxRecDepth 20000 in
theorem mi_X4_hold : Mi yX4_hold cX4_hold 3 (some .int) 2 := ⟨wg_in (List.mem_append_right _ (List.mem_append_right _ (List.mem_append_left _ (List.mem_of_getElem? (i := 179) rfl)))) rfl, wg_in (List.mem_append_right _ (List.mem_append_right _ (List.mem_append_left _ (List.mem_of_getElem? (i := 180) rfl)))) rfl, in_X4, wg_in (List.mem_append_right _ (List.mem_append_right _ (List.mem_append_left _ (List.mem_of_getElem? (i := 181) rfl)))) rfl, ⟨by decide +kernel, by decide +kernel, by decide +kernel⟩⟩
set_option maxRecDepth 20000 in
theorem mi_X4_as : Mi yX4_as cX4_as 4 (some .int) 2 := ⟨wg_in (List.mem_append_right _ (List.mem_append_right _ (List.mem_append_left _ (List.mem_of_getElem? (i := 183) rfl)))) rfl, wg_in (List.mem_append_right _ (List.mem_append_right _ (List.mem_append_left _ (List.mem_of_getElem? (i := 184) rfl)))) rfl, in_X4, wg_in (List.mem_append_right _ (List.mem_append_right _ (List.mem_append_left _ (List.mem_of_getElem? (i := 185) rfl)))) rfl, ⟨by decide +kernel, by decide +kernel, by decide +kernel⟩⟩
set_option maxRecDepth 20000 in
theorem ms_X4_isUnder : Ms yX4_isUnder cX4_isUnder 4 (some .boolean) 2 := ⟨wg_in (List.mem_append_right _ (List.mem_append_right _ (List.mem_append_left _ (List.mem_of_getElem? (i := 187) rfl)))) rfl, in_X4, wg_in (List.mem_append_right _ (List.mem_append_right _ (List.mem_append_left _ (List.mem_of_getElem? (i := 188) rfl)))) rfl, ⟨by decide +kernel, by decide +kernel, by decide +kernel⟩⟩
set_option maxRecDepth 20000 in
theorem ms_X4_kindAbove : Ms yX4_kindAbove cX4_kindAbove 1 (some .int) 1 := ⟨wg_in (List.mem_append_right _ (List.mem_append_right _ (List.mem_append_left _ (List.mem_of_getElem? (i := 190) rfl)))) rfl, in_X4, wg_in (List.mem_append_right _ (List.mem_append_right _ (List.mem_append_left _ (List.mem_of_getElem? (i := 191) rfl)))) rfl, ⟨by decide +kernel, by decide +kernel, by decide +kernel⟩⟩
set_option maxRecDepth 20000 in
theorem mi_X4_sheet : Mi yX4_sheet cX4_sheet 5 (some .int) 3 := ⟨wg_in (List.mem_append_right _ (List.mem_append_right _ (List.mem_append_left _ (List.mem_of_getElem? (i := 194) rfl)))) rfl, wg_in (List.mem_append_right _ (List.mem_append_right _ (List.mem_append_left _ (List.mem_of_getElem? (i := 195) rfl)))) rfl, in_X4, wg_in (List.mem_append_right _ (List.mem_append_right _ (List.mem_append_left _ (List.mem_of_getElem? (i := 196) rfl)))) rfl, ⟨by decide +kernel, by decide +kernel, by decide +kernel⟩⟩
set_option maxRecDepth 20000 in
theorem mi_X2_renew : Mi yX2_renew cX2_renew 3 none 2 := ⟨wg_in (List.mem_append_right _ (List.mem_append_right _ (List.mem_append_left _ (List.mem_of_getElem? (i := 199) rfl)))) rfl, wg_in (List.mem_append_right _ (List.mem_append_right _ (List.mem_append_left _ (List.mem_of_getElem? (i := 200) rfl)))) rfl, in_X2, wg_in (List.mem_append_right _ (List.mem_append_right _ (List.mem_append_left _ (List.mem_of_getElem? (i := 201) rfl)))) rfl, ⟨by decide +kernel, by decide +kernel, by decide +kernel⟩⟩
set_option maxRecDepth 20000 in
theorem mi_X4_write : Mi yX4_write cX4_write 5 (some .int) 3 := ⟨wg_in (List.mem_append_right _ (List.mem_append_right _ (List.mem_append_left _ (List.mem_of_getElem? (i := 204) rfl)))) rfl, wg_in (List.mem_append_right _ (List.mem_append_right _ (List.mem_append_left _ (List.mem_of_getElem? (i := 205) rfl)))) rfl, in_X4, wg_in (List.mem_append_right _ (List.mem_append_right _ (List.mem_append_left _ (List.mem_of_getElem? (i := 206) rfl)))) rfl, ⟨by decide +kernel, by decide +kernel, by decide +kernel⟩⟩
set_option maxRecDepth 20000 in
theorem mi_X2_cut : Mi yX2_cut cX2_cut 2 (some .int) 1 := ⟨wg_in (List.mem_append_right _ (List.mem_append_right _ (List.mem_append_left _ (List.mem_of_getElem? (i := 208) rfl)))) rfl, wg_in (List.mem_append_right _ (List.mem_append_right _ (List.mem_append_left _ (List.mem_of_getElem? (i := 209) rfl)))) rfl, in_X2, wg_in (List.mem_append_right _ (List.mem_append_right _ (List.mem_append_left _ (List.mem_of_getElem? (i := 210) rfl)))) rfl, ⟨by decide +kernel, by decide +kernel, by decide +kernel⟩⟩
set_option maxRecDepth 20000 in
theorem mi_X4_copy : Mi yX4_copy cX4_copy 8 (some .int) 5 := ⟨wg_in (List.mem_append_right _ (List.mem_append_right _ (List.mem_append_left _ (List.mem_of_getElem? (i := 212) rfl)))) rfl, wg_in (List.mem_append_right _ (List.mem_append_right _ (List.mem_append_left _ (List.mem_of_getElem? (i := 213) rfl)))) rfl, in_X4, wg_in (List.mem_append_right _ (List.mem_append_right _ (List.mem_append_left _ (List.mem_of_getElem? (i := 214) rfl)))) rfl, ⟨by decide +kernel, by decide +kernel, by decide +kernel⟩⟩
set_option maxRecDepth 20000 in
theorem mi_X2_hasRun : Mi yX2_hasRun cX2_hasRun 3 (some .boolean) 2 := ⟨wg_in (List.mem_append_right _ (List.mem_append_right _ (List.mem_append_left _ (List.mem_of_getElem? (i := 216) rfl)))) rfl, wg_in (List.mem_append_right _ (List.mem_append_right _ (List.mem_append_left _ (List.mem_of_getElem? (i := 217) rfl)))) rfl, in_X2, wg_in (List.mem_append_right _ (List.mem_append_right _ (List.mem_append_left _ (List.mem_of_getElem? (i := 218) rfl)))) rfl, ⟨by decide +kernel, by decide +kernel, by decide +kernel⟩⟩
set_option maxRecDepth 20000 in
theorem mi_X4_load : Mi yX4_load cX4_load 5 (some .int) 1 := ⟨wg_in (List.mem_append_right _ (List.mem_append_right _ (List.mem_append_left _ (List.mem_of_getElem? (i := 221) rfl)))) rfl, wg_in (List.mem_append_right _ (List.mem_append_right _ (List.mem_append_left _ (List.mem_of_getElem? (i := 222) rfl)))) rfl, in_X4, wg_in (List.mem_append_right _ (List.mem_append_right _ (List.mem_append_left _ (List.mem_of_getElem? (i := 223) rfl)))) rfl, ⟨by decide +kernel, by decide +kernel, by decide +kernel⟩⟩
set_option maxRecDepth 20000 in
theorem mi_X4_judge : Mi yX4_judge cX4_judge 5 (some .int) 1 := ⟨wg_in (List.mem_append_right _ (List.mem_append_right _ (List.mem_append_left _ (List.mem_of_getElem? (i := 225) rfl)))) rfl, wg_in (List.mem_append_right _ (List.mem_append_right _ (List.mem_append_left _ (List.mem_of_getElem? (i := 226) rfl)))) rfl, in_X4, wg_in (List.mem_append_right _ (List.mem_append_right _ (List.mem_append_left _ (List.mem_of_getElem? (i := 227) rfl)))) rfl, ⟨by decide +kernel, by decide +kernel, by decide +kernel⟩⟩
set_option maxRecDepth 20000 in
theorem mi_X4_image : Mi yX4_image cX4_image 1 (some .int) 0 := ⟨wg_in (List.mem_append_right _ (List.mem_append_right _ (List.mem_append_left _ (List.mem_of_getElem? (i := 229) rfl)))) rfl, wg_in (List.mem_append_right _ (List.mem_append_right _ (List.mem_append_left _ (List.mem_of_getElem? (i := 230) rfl)))) rfl, in_X4, wg_in (List.mem_append_right _ (List.mem_append_right _ (List.mem_append_left _ (List.mem_of_getElem? (i := 231) rfl)))) rfl, ⟨by decide +kernel, by decide +kernel, by decide +kernel⟩⟩
set_option maxRecDepth 20000 in
theorem mi_X4_undo : Mi yX4_undo cX4_undo 1 (some .int) 0 := ⟨wg_in (List.mem_append_right _ (List.mem_append_right _ (List.mem_append_left _ (List.mem_of_getElem? (i := 233) rfl)))) rfl, wg_in (List.mem_append_right _ (List.mem_append_right _ (List.mem_append_left _ (List.mem_of_getElem? (i := 234) rfl)))) rfl, in_X4, wg_in (List.mem_append_right _ (List.mem_append_right _ (List.mem_append_left _ (List.mem_of_getElem? (i := 235) rfl)))) rfl, ⟨by decide +kernel, by decide +kernel, by decide +kernel⟩⟩
set_option maxRecDepth 20000 in
theorem mi_X4_tear : Mi yX4_tear cX4_tear 2 (some .int) 0 := ⟨wg_in (List.mem_append_right _ (List.mem_append_right _ (List.mem_append_left _ (List.mem_of_getElem? (i := 237) rfl)))) rfl, wg_in (List.mem_append_right _ (List.mem_append_right _ (List.mem_append_left _ (List.mem_of_getElem? (i := 238) rfl)))) rfl, in_X4, wg_in (List.mem_append_right _ (List.mem_append_right _ (List.mem_append_left _ (List.mem_of_getElem? (i := 239) rfl)))) rfl, ⟨by decide +kernel, by decide +kernel, by decide +kernel⟩⟩
set_option maxRecDepth 20000 in
theorem mi_X4_count : Mi yX4_count cX4_count 2 (some .int) 1 := ⟨wg_in (List.mem_append_right _ (List.mem_append_right _ (List.mem_append_right _ (List.mem_append_left _ (List.mem_of_getElem? (i := 1) rfl))))) rfl, wg_in (List.mem_append_right _ (List.mem_append_right _ (List.mem_append_right _ (List.mem_append_left _ (List.mem_of_getElem? (i := 2) rfl))))) rfl, in_X4, wg_in (List.mem_append_right _ (List.mem_append_right _ (List.mem_append_right _ (List.mem_append_left _ (List.mem_of_getElem? (i := 3) rfl))))) rfl, ⟨by decide +kernel, by decide +kernel, by decide +kernel⟩⟩
set_option maxRecDepth 20000 in
theorem mi_X0_heldSpots : Mi yX0_heldSpots cX0_heldSpots 3 (some .int) 0 := ⟨wg_in (List.mem_append_right _ (List.mem_append_right _ (List.mem_append_right _ (List.mem_append_left _ (List.mem_of_getElem? (i := 5) rfl))))) rfl, wg_in (List.mem_append_right _ (List.mem_append_right _ (List.mem_append_right _ (List.mem_append_left _ (List.mem_of_getElem? (i := 6) rfl))))) rfl, in_X0, wg_in (List.mem_append_right _ (List.mem_append_right _ (List.mem_append_right _ (List.mem_append_left _ (List.mem_of_getElem? (i := 7) rfl))))) rfl, ⟨by decide +kernel, by decide +kernel, by decide +kernel⟩⟩
set_option maxRecDepth 20000 in
theorem mi_X4_status : Mi yX4_status cX4_status 4 (some .int) 1 := ⟨wg_in (List.mem_append_right _ (List.mem_append_right _ (List.mem_append_right _ (List.mem_append_left _ (List.mem_of_getElem? (i := 9) rfl))))) rfl, wg_in (List.mem_append_right _ (List.mem_append_right _ (List.mem_append_right _ (List.mem_append_left _ (List.mem_of_getElem? (i := 10) rfl))))) rfl, in_X4, wg_in (List.mem_append_right _ (List.mem_append_right _ (List.mem_append_right _ (List.mem_append_left _ (List.mem_of_getElem? (i := 11) rfl))))) rfl, ⟨by decide +kernel, by decide +kernel, by decide +kernel⟩⟩
set_option maxRecDepth 20000 in
theorem mk_X5_init : Cond.code yX5_init cX5_init 1 none ∈ wg_ok := wg_in (List.mem_append_right _ (List.mem_append_right _ (List.mem_append_right _ (List.mem_append_left _ (List.mem_of_getElem? (i := 16) rfl))))) rfl
set_option maxRecDepth 20000 in
theorem mq_X5_init : Cond.instanceMethod yX5_init ∈ wg_ok := wg_in (List.mem_append_right _ (List.mem_append_right _ (List.mem_append_right _ (List.mem_append_left _ (List.mem_of_getElem? (i := 15) rfl))))) rfl
set_option maxRecDepth 20000 in
theorem mi_X5_set : Mi yX5_set cX5_set 3 (some .int) 2 := ⟨wg_in (List.mem_append_right _ (List.mem_append_right _ (List.mem_append_right _ (List.mem_append_left _ (List.mem_of_getElem? (i := 71) rfl))))) rfl, wg_in (List.mem_append_right _ (List.mem_append_right _ (List.mem_append_right _ (List.mem_append_left _ (List.mem_of_getElem? (i := 72) rfl))))) rfl, in_X5, wg_in (List.mem_append_right _ (List.mem_append_right _ (List.mem_append_right _ (List.mem_append_left _ (List.mem_of_getElem? (i := 73) rfl))))) rfl, ⟨by decide +kernel, by decide +kernel, by decide +kernel⟩⟩
set_option maxRecDepth 20000 in
theorem ms_X5_isSet : Ms yX5_isSet cX5_isSet 2 (some .boolean) 2 := ⟨wg_in (List.mem_append_right _ (List.mem_append_right _ (List.mem_append_right _ (List.mem_append_left _ (List.mem_of_getElem? (i := 75) rfl))))) rfl, in_X5, wg_in (List.mem_append_right _ (List.mem_append_right _ (List.mem_append_right _ (List.mem_append_left _ (List.mem_of_getElem? (i := 76) rfl))))) rfl, ⟨by decide +kernel, by decide +kernel, by decide +kernel⟩⟩
set_option maxRecDepth 20000 in
theorem ms_X5_in : Ms yX5_in cX5_in 6 (some .boolean) 3 := ⟨wg_in (List.mem_append_right _ (List.mem_append_right _ (List.mem_append_right _ (List.mem_append_left _ (List.mem_of_getElem? (i := 79) rfl))))) rfl, in_X5, wg_in (List.mem_append_right _ (List.mem_append_right _ (List.mem_append_right _ (List.mem_append_left _ (List.mem_of_getElem? (i := 80) rfl))))) rfl, ⟨by decide +kernel, by decide +kernel, by decide +kernel⟩⟩
set_option maxRecDepth 20000 in
theorem mi_X5_becomes : Mi yX5_becomes cX5_becomes 4 (some .int) 2 := ⟨wg_in (List.mem_append_right _ (List.mem_append_right _ (List.mem_append_right _ (List.mem_append_left _ (List.mem_of_getElem? (i := 85) rfl))))) rfl, wg_sel (List.mem_map.mpr ⟨_, (show (yX5_becomes, _) ∈ lw_privs from (List.mem_append_left _ (List.mem_of_getElem? (i := 12) rfl))), rfl⟩) rfl, in_X5, wg_in (List.mem_append_right _ (List.mem_append_right _ (List.mem_append_right _ (List.mem_append_left _ (List.mem_of_getElem? (i := 86) rfl))))) rfl, ⟨by decide +kernel, by decide +kernel, by decide +kernel⟩⟩
set_option maxRecDepth 20000 in
theorem mi_X5_finds : Mi yX5_finds cX5_finds 2 (some .int) 1 := ⟨wg_in (List.mem_append_right _ (List.mem_append_right _ (List.mem_append_right _ (List.mem_append_left _ (List.mem_of_getElem? (i := 89) rfl))))) rfl, wg_sel (List.mem_map.mpr ⟨_, (show (yX5_finds, _) ∈ lw_privs from (List.mem_append_left _ (List.mem_of_getElem? (i := 13) rfl))), rfl⟩) rfl, in_X5, wg_in (List.mem_append_right _ (List.mem_append_right _ (List.mem_append_right _ (List.mem_append_left _ (List.mem_of_getElem? (i := 90) rfl))))) rfl, ⟨by decide +kernel, by decide +kernel, by decide +kernel⟩⟩
set_option maxRecDepth 20000 in
theorem mi_X5_home : Mi yX5_home cX5_home 2 (some .int) 1 := ⟨wg_in (List.mem_append_right _ (List.mem_append_right _ (List.mem_append_right _ (List.mem_append_left _ (List.mem_of_getElem? (i := 93) rfl))))) rfl, wg_in (List.mem_append_right _ (List.mem_append_right _ (List.mem_append_right _ (List.mem_append_left _ (List.mem_of_getElem? (i := 94) rfl))))) rfl, in_X5, wg_in (List.mem_append_right _ (List.mem_append_right _ (List.mem_append_right _ (List.mem_append_left _ (List.mem_of_getElem? (i := 95) rfl))))) rfl, ⟨by decide +kernel, by decide +kernel, by decide +kernel⟩⟩
set_option maxRecDepth 20000 in
theorem mi_X5_visit : Mi yX5_visit cX5_visit 3 (some .int) 2 := ⟨wg_in (List.mem_append_right _ (List.mem_append_right _ (List.mem_append_right _ (List.mem_append_left _ (List.mem_of_getElem? (i := 98) rfl))))) rfl, wg_in (List.mem_append_right _ (List.mem_append_right _ (List.mem_append_right _ (List.mem_append_left _ (List.mem_of_getElem? (i := 99) rfl))))) rfl, in_X5, wg_in (List.mem_append_right _ (List.mem_append_right _ (List.mem_append_right _ (List.mem_append_left _ (List.mem_of_getElem? (i := 100) rfl))))) rfl, ⟨by decide +kernel, by decide +kernel, by decide +kernel⟩⟩
set_option maxRecDepth 20000 in
theorem ms_X5_isPlace : Ms yX5_isPlace cX5_isPlace 1 (some .boolean) 1 := ⟨wg_in (List.mem_append_right _ (List.mem_append_right _ (List.mem_append_right _ (List.mem_append_left _ (List.mem_of_getElem? (i := 102) rfl))))) rfl, in_X5, wg_in (List.mem_append_right _ (List.mem_append_right _ (List.mem_append_right _ (List.mem_append_left _ (List.mem_of_getElem? (i := 103) rfl))))) rfl, ⟨by decide +kernel, by decide +kernel, by decide +kernel⟩⟩
set_option maxRecDepth 20000 in
theorem mi_X5_visits : Mi yX5_visits cX5_visits 2 (some .int) 1 := ⟨wg_in (List.mem_append_right _ (List.mem_append_right _ (List.mem_append_right _ (List.mem_append_left _ (List.mem_of_getElem? (i := 107) rfl))))) rfl, wg_in (List.mem_append_right _ (List.mem_append_right _ (List.mem_append_right _ (List.mem_append_left _ (List.mem_of_getElem? (i := 108) rfl))))) rfl, in_X5, wg_in (List.mem_append_right _ (List.mem_append_right _ (List.mem_append_right _ (List.mem_append_left _ (List.mem_of_getElem? (i := 109) rfl))))) rfl, ⟨by decide +kernel, by decide +kernel, by decide +kernel⟩⟩
set_option maxRecDepth 20000 in
theorem mi_X5_resident : Mi yX5_resident cX5_resident 2 (some .int) 1 := ⟨wg_in (List.mem_append_right _ (List.mem_append_right _ (List.mem_append_right _ (List.mem_append_left _ (List.mem_of_getElem? (i := 111) rfl))))) rfl, wg_in (List.mem_append_right _ (List.mem_append_right _ (List.mem_append_right _ (List.mem_append_left _ (List.mem_of_getElem? (i := 112) rfl))))) rfl, in_X5, wg_in (List.mem_append_right _ (List.mem_append_right _ (List.mem_append_right _ (List.mem_append_left _ (List.mem_of_getElem? (i := 113) rfl))))) rfl, ⟨by decide +kernel, by decide +kernel, by decide +kernel⟩⟩
set_option maxRecDepth 20000 in
theorem mi_X5_comes : Mi yX5_comes cX5_comes 3 (some .int) 1 := ⟨wg_in (List.mem_append_right _ (List.mem_append_right _ (List.mem_append_right _ (List.mem_append_left _ (List.mem_of_getElem? (i := 117) rfl))))) rfl, wg_sel (List.mem_map.mpr ⟨_, (show (yX5_comes, _) ∈ lw_privs from (List.mem_append_left _ (List.mem_of_getElem? (i := 14) rfl))), rfl⟩) rfl, in_X5, wg_in (List.mem_append_right _ (List.mem_append_right _ (List.mem_append_right _ (List.mem_append_left _ (List.mem_of_getElem? (i := 118) rfl))))) rfl, ⟨by decide +kernel, by decide +kernel, by decide +kernel⟩⟩
set_option maxRecDepth 20000 in
theorem mi_X5_sets : Mi yX5_sets cX5_sets 4 none 3 := ⟨wg_in (List.mem_append_right _ (List.mem_append_right _ (List.mem_append_right _ (List.mem_append_left _ (List.mem_of_getElem? (i := 121) rfl))))) rfl, wg_sel (List.mem_map.mpr ⟨_, (show (yX5_sets, _) ∈ lw_privs from (List.mem_append_left _ (List.mem_of_getElem? (i := 15) rfl))), rfl⟩) rfl, in_X5, wg_in (List.mem_append_right _ (List.mem_append_right _ (List.mem_append_right _ (List.mem_append_left _ (List.mem_of_getElem? (i := 122) rfl))))) rfl, ⟨by decide +kernel, by decide +kernel, by decide +kernel⟩⟩
set_option maxRecDepth 20000 in
theorem mi_X5_of : Mi yX5_of cX5_of 3 (some .int) 2 := ⟨wg_in (List.mem_append_right _ (List.mem_append_right _ (List.mem_append_right _ (List.mem_append_left _ (List.mem_of_getElem? (i := 124) rfl))))) rfl, wg_in (List.mem_append_right _ (List.mem_append_right _ (List.mem_append_right _ (List.mem_append_left _ (List.mem_of_getElem? (i := 125) rfl))))) rfl, in_X5, wg_in (List.mem_append_right _ (List.mem_append_right _ (List.mem_append_right _ (List.mem_append_left _ (List.mem_of_getElem? (i := 126) rfl))))) rfl, ⟨by decide +kernel, by decide +kernel, by decide +kernel⟩⟩
set_option maxRecDepth 20000 in
theorem mi_X5_isResident : Mi yX5_isResident cX5_isResident 2 (some .boolean) 1 := ⟨wg_in (List.mem_append_right _ (List.mem_append_right _ (List.mem_append_right _ (List.mem_append_left _ (List.mem_of_getElem? (i := 129) rfl))))) rfl, wg_sel (List.mem_map.mpr ⟨_, (show (yX5_isResident, _) ∈ lw_privs from (List.mem_append_right _ (List.mem_append_left _ (List.mem_of_getElem? (i := 0) rfl)))), rfl⟩) rfl, in_X5, wg_in (List.mem_append_right _ (List.mem_append_right _ (List.mem_append_right _ (List.mem_append_left _ (List.mem_of_getElem? (i := 130) rfl))))) rfl, ⟨by decide +kernel, by decide +kernel, by decide +kernel⟩⟩
set_option maxRecDepth 20000 in
theorem mi_X5_seats : Mi yX5_seats cX5_seats 2 (some .int) 1 := ⟨wg_in (List.mem_append_right _ (List.mem_append_right _ (List.mem_append_right _ (List.mem_append_left _ (List.mem_of_getElem? (i := 133) rfl))))) rfl, wg_sel (List.mem_map.mpr ⟨_, (show (yX5_seats, _) ∈ lw_privs from (List.mem_append_right _ (List.mem_append_left _ (List.mem_of_getElem? (i := 1) rfl)))), rfl⟩) rfl, in_X5, wg_in (List.mem_append_right _ (List.mem_append_right _ (List.mem_append_right _ (List.mem_append_left _ (List.mem_of_getElem? (i := 134) rfl))))) rfl, ⟨by decide +kernel, by decide +kernel, by decide +kernel⟩⟩
set_option maxRecDepth 20000 in
theorem mi_X5_its : Mi yX5_its cX5_its 3 (some .int) 2 := ⟨wg_in (List.mem_append_right _ (List.mem_append_right _ (List.mem_append_right _ (List.mem_append_left _ (List.mem_of_getElem? (i := 137) rfl))))) rfl, wg_sel (List.mem_map.mpr ⟨_, (show (yX5_its, _) ∈ lw_privs from (List.mem_append_right _ (List.mem_append_left _ (List.mem_of_getElem? (i := 2) rfl)))), rfl⟩) rfl, in_X5, wg_in (List.mem_append_right _ (List.mem_append_right _ (List.mem_append_right _ (List.mem_append_left _ (List.mem_of_getElem? (i := 138) rfl))))) rfl, ⟨by decide +kernel, by decide +kernel, by decide +kernel⟩⟩
set_option maxRecDepth 20000 in
theorem mi_X5_gains : Mi yX5_gains cX5_gains 3 (some .int) 1 := ⟨wg_in (List.mem_append_right _ (List.mem_append_right _ (List.mem_append_right _ (List.mem_append_left _ (List.mem_of_getElem? (i := 141) rfl))))) rfl, wg_sel (List.mem_map.mpr ⟨_, (show (yX5_gains, _) ∈ lw_privs from (List.mem_append_right _ (List.mem_append_left _ (List.mem_of_getElem? (i := 3) rfl)))), rfl⟩) rfl, in_X5, wg_in (List.mem_append_right _ (List.mem_append_right _ (List.mem_append_right _ (List.mem_append_left _ (List.mem_of_getElem? (i := 142) rfl))))) rfl, ⟨by decide +kernel, by decide +kernel, by decide +kernel⟩⟩
set_option maxRecDepth 20000 in
theorem ms_X5_held : Ms yX5_held cX5_held 3 (some .int) 3 := ⟨wg_in (List.mem_append_right _ (List.mem_append_right _ (List.mem_append_right _ (List.mem_append_left _ (List.mem_of_getElem? (i := 144) rfl))))) rfl, in_X5, wg_in (List.mem_append_right _ (List.mem_append_right _ (List.mem_append_right _ (List.mem_append_left _ (List.mem_of_getElem? (i := 145) rfl))))) rfl, ⟨by decide +kernel, by decide +kernel, by decide +kernel⟩⟩
set_option maxRecDepth 20000 in
theorem mi_X5_loses : Mi yX5_loses cX5_loses 3 (some .int) 2 := ⟨wg_in (List.mem_append_right _ (List.mem_append_right _ (List.mem_append_right _ (List.mem_append_left _ (List.mem_of_getElem? (i := 148) rfl))))) rfl, wg_sel (List.mem_map.mpr ⟨_, (show (yX5_loses, _) ∈ lw_privs from (List.mem_append_right _ (List.mem_append_left _ (List.mem_of_getElem? (i := 4) rfl)))), rfl⟩) rfl, in_X5, wg_in (List.mem_append_right _ (List.mem_append_right _ (List.mem_append_right _ (List.mem_append_left _ (List.mem_of_getElem? (i := 149) rfl))))) rfl, ⟨by decide +kernel, by decide +kernel, by decide +kernel⟩⟩
set_option maxRecDepth 20000 in
theorem mi_X5_shares : Mi yX5_shares cX5_shares 3 (some .boolean) 1 := ⟨wg_in (List.mem_append_right _ (List.mem_append_right _ (List.mem_append_right _ (List.mem_append_left _ (List.mem_of_getElem? (i := 152) rfl))))) rfl, wg_sel (List.mem_map.mpr ⟨_, (show (yX5_shares, _) ∈ lw_privs from (List.mem_append_right _ (List.mem_append_left _ (List.mem_of_getElem? (i := 5) rfl)))), rfl⟩) rfl, in_X5, wg_in (List.mem_append_right _ (List.mem_append_right _ (List.mem_append_right _ (List.mem_append_left _ (List.mem_of_getElem? (i := 153) rfl))))) rfl, ⟨by decide +kernel, by decide +kernel, by decide +kernel⟩⟩
set_option maxRecDepth 20000 in
theorem mi_X5_change : Mi yX5_change cX5_change 4 (some .int) 3 := ⟨wg_in (List.mem_append_right _ (List.mem_append_right _ (List.mem_append_right _ (List.mem_append_left _ (List.mem_of_getElem? (i := 155) rfl))))) rfl, wg_in (List.mem_append_right _ (List.mem_append_right _ (List.mem_append_right _ (List.mem_append_left _ (List.mem_of_getElem? (i := 156) rfl))))) rfl, in_X5, wg_in (List.mem_append_right _ (List.mem_append_right _ (List.mem_append_right _ (List.mem_append_left _ (List.mem_of_getElem? (i := 157) rfl))))) rfl, ⟨by decide +kernel, by decide +kernel, by decide +kernel⟩⟩
set_option maxRecDepth 20000 in
theorem mi_X5_isIts : Mi yX5_isIts cX5_isIts 4 (some .boolean) 3 := ⟨wg_in (List.mem_append_right _ (List.mem_append_right _ (List.mem_append_right _ (List.mem_append_left _ (List.mem_of_getElem? (i := 161) rfl))))) rfl, wg_sel (List.mem_map.mpr ⟨_, (show (yX5_isIts, _) ∈ lw_privs from (List.mem_append_right _ (List.mem_append_left _ (List.mem_of_getElem? (i := 6) rfl)))), rfl⟩) rfl, in_X5, wg_in (List.mem_append_right _ (List.mem_append_right _ (List.mem_append_right _ (List.mem_append_left _ (List.mem_of_getElem? (i := 162) rfl))))) rfl, ⟨by decide +kernel, by decide +kernel, by decide +kernel⟩⟩
set_option maxRecDepth 20000 in
theorem mi_X5_go : Mi yX5_go cX5_go 2 (some .int) 1 := ⟨wg_in (List.mem_append_right _ (List.mem_append_right _ (List.mem_append_right _ (List.mem_append_left _ (List.mem_of_getElem? (i := 167) rfl))))) rfl, wg_in (List.mem_append_right _ (List.mem_append_right _ (List.mem_append_right _ (List.mem_append_left _ (List.mem_of_getElem? (i := 168) rfl))))) rfl, in_X5, wg_in (List.mem_append_right _ (List.mem_append_right _ (List.mem_append_right _ (List.mem_append_left _ (List.mem_of_getElem? (i := 169) rfl))))) rfl, ⟨by decide +kernel, by decide +kernel, by decide +kernel⟩⟩
set_option maxRecDepth 20000 in
theorem mi_X5_sundaysGo : Mi yX5_sundaysGo cX5_sundaysGo 3 none 1 := ⟨wg_in (List.mem_append_right _ (List.mem_append_right _ (List.mem_append_right _ (List.mem_append_left _ (List.mem_of_getElem? (i := 174) rfl))))) rfl, wg_sel (List.mem_map.mpr ⟨_, (show (yX5_sundaysGo, _) ∈ lw_privs from (List.mem_append_right _ (List.mem_append_left _ (List.mem_of_getElem? (i := 7) rfl)))), rfl⟩) rfl, in_X5, wg_in (List.mem_append_right _ (List.mem_append_right _ (List.mem_append_right _ (List.mem_append_left _ (List.mem_of_getElem? (i := 175) rfl))))) rfl, ⟨by decide +kernel, by decide +kernel, by decide +kernel⟩⟩
set_option maxRecDepth 20000 in
theorem mi_X5_sundayGoes : Mi yX5_sundayGoes cX5_sundayGoes 9 none 0 := ⟨wg_in (List.mem_append_right _ (List.mem_append_right _ (List.mem_append_right _ (List.mem_append_left _ (List.mem_of_getElem? (i := 178) rfl))))) rfl, wg_sel (List.mem_map.mpr ⟨_, (show (yX5_sundayGoes, _) ∈ lw_privs from (List.mem_append_right _ (List.mem_append_left _ (List.mem_of_getElem? (i := 8) rfl)))), rfl⟩) rfl, in_X5, wg_in (List.mem_append_right _ (List.mem_append_right _ (List.mem_append_right _ (List.mem_append_left _ (List.mem_of_getElem? (i := 179) rfl))))) rfl, ⟨by decide +kernel, by decide +kernel, by decide +kernel⟩⟩
set_option maxRecDepth 20000 in
theorem mi_X5_todays : Mi yX5_todays cX5_todays 1 (some .int) 0 := ⟨wg_in (List.mem_append_right _ (List.mem_append_right _ (List.mem_append_right _ (List.mem_append_left _ (List.mem_of_getElem? (i := 182) rfl))))) rfl, wg_sel (List.mem_map.mpr ⟨_, (show (yX5_todays, _) ∈ lw_privs from (List.mem_append_right _ (List.mem_append_left _ (List.mem_of_getElem? (i := 9) rfl)))), rfl⟩) rfl, in_X5, wg_in (List.mem_append_right _ (List.mem_append_right _ (List.mem_append_right _ (List.mem_append_left _ (List.mem_of_getElem? (i := 183) rfl))))) rfl, ⟨by decide +kernel, by decide +kernel, by decide +kernel⟩⟩
set_option maxRecDepth 20000 in
theorem mi_X5_visitedOf : Mi yX5_visitedOf cX5_visitedOf 5 (some .int) 1 := ⟨wg_in (List.mem_append_right _ (List.mem_append_right _ (List.mem_append_right _ (List.mem_append_left _ (List.mem_of_getElem? (i := 186) rfl))))) rfl, wg_sel (List.mem_map.mpr ⟨_, (show (yX5_visitedOf, _) ∈ lw_privs from (List.mem_append_right _ (List.mem_append_left _ (List.mem_of_getElem? (i := 10) rfl)))), rfl⟩) rfl, in_X5, wg_in (List.mem_append_right _ (List.mem_append_right _ (List.mem_append_right _ (List.mem_append_left _ (List.mem_of_getElem? (i := 187) rfl))))) rfl, ⟨by decide +kernel, by decide +kernel, by decide +kernel⟩⟩
set_option maxRecDepth 20000 in
theorem mi_X5_sharersOf : Mi yX5_sharersOf cX5_sharersOf 6 (some .int) 1 := ⟨wg_in (List.mem_append_right _ (List.mem_append_right _ (List.mem_append_right _ (List.mem_append_left _ (List.mem_of_getElem? (i := 190) rfl))))) rfl, wg_sel (List.mem_map.mpr ⟨_, (show (yX5_sharersOf, _) ∈ lw_privs from (List.mem_append_right _ (List.mem_append_left _ (List.mem_of_getElem? (i := 11) rfl)))), rfl⟩) rfl, in_X5, wg_in (List.mem_append_right _ (List.mem_append_right _ (List.mem_append_right _ (List.mem_append_left _ (List.mem_of_getElem? (i := 191) rfl))))) rfl, ⟨by decide +kernel, by decide +kernel, by decide +kernel⟩⟩
set_option maxRecDepth 20000 in
theorem mi_X5_helpedOf : Mi yX5_helpedOf cX5_helpedOf 5 (some .int) 1 := ⟨wg_in (List.mem_append_right _ (List.mem_append_right _ (List.mem_append_right _ (List.mem_append_left _ (List.mem_of_getElem? (i := 194) rfl))))) rfl, wg_sel (List.mem_map.mpr ⟨_, (show (yX5_helpedOf, _) ∈ lw_privs from (List.mem_append_right _ (List.mem_append_left _ (List.mem_of_getElem? (i := 12) rfl)))), rfl⟩) rfl, in_X5, wg_in (List.mem_append_right _ (List.mem_append_right _ (List.mem_append_right _ (List.mem_append_left _ (List.mem_of_getElem? (i := 195) rfl))))) rfl, ⟨by decide +kernel, by decide +kernel, by decide +kernel⟩⟩
set_option maxRecDepth 20000 in
theorem mi_X5_longest : Mi yX5_longest cX5_longest 4 (some .int) 1 := ⟨wg_in (List.mem_append_right _ (List.mem_append_right _ (List.mem_append_right _ (List.mem_append_left _ (List.mem_of_getElem? (i := 198) rfl))))) rfl, wg_sel (List.mem_map.mpr ⟨_, (show (yX5_longest, _) ∈ lw_privs from (List.mem_append_right _ (List.mem_append_left _ (List.mem_of_getElem? (i := 13) rfl)))), rfl⟩) rfl, in_X5, wg_in (List.mem_append_right _ (List.mem_append_right _ (List.mem_append_right _ (List.mem_append_left _ (List.mem_of_getElem? (i := 199) rfl))))) rfl, ⟨by decide +kernel, by decide +kernel, by decide +kernel⟩⟩
set_option maxRecDepth 20000 in
theorem ms_X5_ones : Ms yX5_ones cX5_ones 3 (some .int) 1 := ⟨wg_in (List.mem_append_right _ (List.mem_append_right _ (List.mem_append_right _ (List.mem_append_left _ (List.mem_of_getElem? (i := 201) rfl))))) rfl, in_X5, wg_in (List.mem_append_right _ (List.mem_append_right _ (List.mem_append_right _ (List.mem_append_left _ (List.mem_of_getElem? (i := 202) rfl))))) rfl, ⟨by decide +kernel, by decide +kernel, by decide +kernel⟩⟩
set_option maxRecDepth 20000 in
theorem mi_X5_sumOf : Mi yX5_sumOf cX5_sumOf 4 (some .int) 1 := ⟨wg_in (List.mem_append_right _ (List.mem_append_right _ (List.mem_append_right _ (List.mem_append_left _ (List.mem_of_getElem? (i := 205) rfl))))) rfl, wg_sel (List.mem_map.mpr ⟨_, (show (yX5_sumOf, _) ∈ lw_privs from (List.mem_append_right _ (List.mem_append_left _ (List.mem_of_getElem? (i := 14) rfl)))), rfl⟩) rfl, in_X5, wg_in (List.mem_append_right _ (List.mem_append_right _ (List.mem_append_right _ (List.mem_append_left _ (List.mem_of_getElem? (i := 206) rfl))))) rfl, ⟨by decide +kernel, by decide +kernel, by decide +kernel⟩⟩
set_option maxRecDepth 20000 in
theorem mi_X5_now : Mi yX5_now cX5_now 4 (some .int) 1 := ⟨wg_in (List.mem_append_right _ (List.mem_append_right _ (List.mem_append_right _ (List.mem_append_left _ (List.mem_of_getElem? (i := 208) rfl))))) rfl, wg_in (List.mem_append_right _ (List.mem_append_right _ (List.mem_append_right _ (List.mem_append_left _ (List.mem_of_getElem? (i := 209) rfl))))) rfl, in_X5, wg_in (List.mem_append_right _ (List.mem_append_right _ (List.mem_append_right _ (List.mem_append_left _ (List.mem_of_getElem? (i := 210) rfl))))) rfl, ⟨by decide +kernel, by decide +kernel, by decide +kernel⟩⟩
set_option maxRecDepth 20000 in
theorem mi_X5_wells : Mi yX5_wells cX5_wells 3 (some .int) 0 := ⟨wg_in (List.mem_append_right _ (List.mem_append_right _ (List.mem_append_right _ (List.mem_append_left _ (List.mem_of_getElem? (i := 213) rfl))))) rfl, wg_sel (List.mem_map.mpr ⟨_, (show (yX5_wells, _) ∈ lw_privs from (List.mem_append_right _ (List.mem_append_left _ (List.mem_of_getElem? (i := 15) rfl)))), rfl⟩) rfl, in_X5, wg_in (List.mem_append_right _ (List.mem_append_right _ (List.mem_append_right _ (List.mem_append_left _ (List.mem_of_getElem? (i := 214) rfl))))) rfl, ⟨by decide +kernel, by decide +kernel, by decide +kernel⟩⟩
set_option maxRecDepth 20000 in
theorem mi_X5_ahead : Mi yX5_ahead cX5_ahead 4 (some .int) 3 := ⟨wg_in (List.mem_append_right _ (List.mem_append_right _ (List.mem_append_right _ (List.mem_append_left _ (List.mem_of_getElem? (i := 216) rfl))))) rfl, wg_in (List.mem_append_right _ (List.mem_append_right _ (List.mem_append_right _ (List.mem_append_left _ (List.mem_of_getElem? (i := 217) rfl))))) rfl, in_X5, wg_in (List.mem_append_right _ (List.mem_append_right _ (List.mem_append_right _ (List.mem_append_left _ (List.mem_of_getElem? (i := 218) rfl))))) rfl, ⟨by decide +kernel, by decide +kernel, by decide +kernel⟩⟩
set_option maxRecDepth 20000 in
theorem ms_X5_copies : Ms yX5_copies cX5_copies 3 none 2 := ⟨wg_in (List.mem_append_right _ (List.mem_append_right _ (List.mem_append_right _ (List.mem_append_left _ (List.mem_of_getElem? (i := 221) rfl))))) rfl, in_X5, wg_in (List.mem_append_right _ (List.mem_append_right _ (List.mem_append_right _ (List.mem_append_left _ (List.mem_of_getElem? (i := 222) rfl))))) rfl, ⟨by decide +kernel, by decide +kernel, by decide +kernel⟩⟩
set_option maxRecDepth 20000 in
theorem mi_X5_behind : Mi yX5_behind cX5_behind 4 (some .int) 2 := ⟨wg_in (List.mem_append_right _ (List.mem_append_right _ (List.mem_append_right _ (List.mem_append_left _ (List.mem_of_getElem? (i := 225) rfl))))) rfl, wg_sel (List.mem_map.mpr ⟨_, (show (yX5_behind, _) ∈ lw_privs from (List.mem_append_right _ (List.mem_append_right _ (List.mem_append_left _ (List.mem_of_getElem? (i := 0) rfl))))), rfl⟩) rfl, in_X5, wg_in (List.mem_append_right _ (List.mem_append_right _ (List.mem_append_right _ (List.mem_append_left _ (List.mem_of_getElem? (i := 226) rfl))))) rfl, ⟨by decide +kernel, by decide +kernel, by decide +kernel⟩⟩
set_option maxRecDepth 20000 in
theorem mi_X5_glad : Mi yX5_glad cX5_glad 3 (some .int) 2 := ⟨wg_in (List.mem_append_right _ (List.mem_append_right _ (List.mem_append_right _ (List.mem_append_left _ (List.mem_of_getElem? (i := 228) rfl))))) rfl, wg_in (List.mem_append_right _ (List.mem_append_right _ (List.mem_append_right _ (List.mem_append_left _ (List.mem_of_getElem? (i := 229) rfl))))) rfl, in_X5, wg_in (List.mem_append_right _ (List.mem_append_right _ (List.mem_append_right _ (List.mem_append_left _ (List.mem_of_getElem? (i := 230) rfl))))) rfl, ⟨by decide +kernel, by decide +kernel, by decide +kernel⟩⟩
set_option maxRecDepth 20000 in
theorem mi_X5_firstOf : Mi yX5_firstOf cX5_firstOf 6 (some .int) 3 := ⟨wg_in (List.mem_append_right _ (List.mem_append_right _ (List.mem_append_right _ (List.mem_append_left _ (List.mem_of_getElem? (i := 233) rfl))))) rfl, wg_sel (List.mem_map.mpr ⟨_, (show (yX5_firstOf, _) ∈ lw_privs from (List.mem_append_right _ (List.mem_append_right _ (List.mem_append_left _ (List.mem_of_getElem? (i := 1) rfl))))), rfl⟩) rfl, in_X5, wg_in (List.mem_append_right _ (List.mem_append_right _ (List.mem_append_right _ (List.mem_append_left _ (List.mem_of_getElem? (i := 234) rfl))))) rfl, ⟨by decide +kernel, by decide +kernel, by decide +kernel⟩⟩
set_option maxRecDepth 20000 in
theorem mi_X5_sad : Mi yX5_sad cX5_sad 3 (some .int) 2 := ⟨wg_in (List.mem_append_right _ (List.mem_append_right _ (List.mem_append_right _ (List.mem_append_left _ (List.mem_of_getElem? (i := 236) rfl))))) rfl, wg_in (List.mem_append_right _ (List.mem_append_right _ (List.mem_append_right _ (List.mem_append_left _ (List.mem_of_getElem? (i := 237) rfl))))) rfl, in_X5, wg_in (List.mem_append_right _ (List.mem_append_right _ (List.mem_append_right _ (List.mem_append_left _ (List.mem_of_getElem? (i := 238) rfl))))) rfl, ⟨by decide +kernel, by decide +kernel, by decide +kernel⟩⟩
set_option maxRecDepth 20000 in
theorem mi_X5_when : Mi yX5_when cX5_when 3 (some .int) 2 := ⟨wg_in (List.mem_append_right _ (List.mem_append_right _ (List.mem_append_right _ (List.mem_append_right _ (List.mem_of_getElem? (i := 0) rfl))))) rfl, wg_in (List.mem_append_right _ (List.mem_append_right _ (List.mem_append_right _ (List.mem_append_right _ (List.mem_of_getElem? (i := 1) rfl))))) rfl, in_X5, wg_in (List.mem_append_right _ (List.mem_append_right _ (List.mem_append_right _ (List.mem_append_right _ (List.mem_of_getElem? (i := 2) rfl))))) rfl, ⟨by decide +kernel, by decide +kernel, by decide +kernel⟩⟩
set_option maxRecDepth 20000 in
theorem mi_X5_well : Mi yX5_well cX5_well 3 (some .int) 0 := ⟨wg_in (List.mem_append_right _ (List.mem_append_right _ (List.mem_append_right _ (List.mem_append_right _ (List.mem_of_getElem? (i := 4) rfl))))) rfl, wg_in (List.mem_append_right _ (List.mem_append_right _ (List.mem_append_right _ (List.mem_append_right _ (List.mem_of_getElem? (i := 5) rfl))))) rfl, in_X5, wg_in (List.mem_append_right _ (List.mem_append_right _ (List.mem_append_right _ (List.mem_append_right _ (List.mem_of_getElem? (i := 6) rfl))))) rfl, ⟨by decide +kernel, by decide +kernel, by decide +kernel⟩⟩
set_option maxRecDepth 20000 in
theorem mi_X5_areAll : Mi yX5_areAll cX5_areAll 1 (some .boolean) 0 := ⟨wg_in (List.mem_append_right _ (List.mem_append_right _ (List.mem_append_right _ (List.mem_append_right _ (List.mem_of_getElem? (i := 9) rfl))))) rfl, wg_sel (List.mem_map.mpr ⟨_, (show (yX5_areAll, _) ∈ lw_privs from (List.mem_append_right _ (List.mem_append_right _ (List.mem_append_left _ (List.mem_of_getElem? (i := 2) rfl))))), rfl⟩) rfl, in_X5, wg_in (List.mem_append_right _ (List.mem_append_right _ (List.mem_append_right _ (List.mem_append_right _ (List.mem_of_getElem? (i := 10) rfl))))) rfl, ⟨by decide +kernel, by decide +kernel, by decide +kernel⟩⟩
set_option maxRecDepth 20000 in
theorem mi_X5_longFor : Mi yX5_longFor cX5_longFor 6 (some .int) 1 := ⟨wg_in (List.mem_append_right _ (List.mem_append_right _ (List.mem_append_right _ (List.mem_append_right _ (List.mem_of_getElem? (i := 12) rfl))))) rfl, wg_in (List.mem_append_right _ (List.mem_append_right _ (List.mem_append_right _ (List.mem_append_right _ (List.mem_of_getElem? (i := 13) rfl))))) rfl, in_X5, wg_in (List.mem_append_right _ (List.mem_append_right _ (List.mem_append_right _ (List.mem_append_right _ (List.mem_of_getElem? (i := 14) rfl))))) rfl, ⟨by decide +kernel, by decide +kernel, by decide +kernel⟩⟩
set_option maxRecDepth 20000 in
theorem ms_X5_isShort : Ms yX5_isShort cX5_isShort 1 (some .boolean) 1 := ⟨wg_in (List.mem_append_right _ (List.mem_append_right _ (List.mem_append_right _ (List.mem_append_right _ (List.mem_of_getElem? (i := 16) rfl))))) rfl, in_X5, wg_in (List.mem_append_right _ (List.mem_append_right _ (List.mem_append_right _ (List.mem_append_right _ (List.mem_of_getElem? (i := 17) rfl))))) rfl, ⟨by decide +kernel, by decide +kernel, by decide +kernel⟩⟩
set_option maxRecDepth 20000 in
theorem mi_X5_chairsFor : Mi yX5_chairsFor cX5_chairsFor 5 (some .int) 2 := ⟨wg_in (List.mem_append_right _ (List.mem_append_right _ (List.mem_append_right _ (List.mem_append_right _ (List.mem_of_getElem? (i := 20) rfl))))) rfl, wg_in (List.mem_append_right _ (List.mem_append_right _ (List.mem_append_right _ (List.mem_append_right _ (List.mem_of_getElem? (i := 21) rfl))))) rfl, in_X5, wg_in (List.mem_append_right _ (List.mem_append_right _ (List.mem_append_right _ (List.mem_append_right _ (List.mem_of_getElem? (i := 22) rfl))))) rfl, ⟨by decide +kernel, by decide +kernel, by decide +kernel⟩⟩
set_option maxRecDepth 20000 in
theorem mi_X5_volunteersFor : Mi yX5_volunteersFor cX5_volunteersFor 6 (some .int) 2 := ⟨wg_in (List.mem_append_right _ (List.mem_append_right _ (List.mem_append_right _ (List.mem_append_right _ (List.mem_of_getElem? (i := 24) rfl))))) rfl, wg_in (List.mem_append_right _ (List.mem_append_right _ (List.mem_append_right _ (List.mem_append_right _ (List.mem_of_getElem? (i := 25) rfl))))) rfl, in_X5, wg_in (List.mem_append_right _ (List.mem_append_right _ (List.mem_append_right _ (List.mem_append_right _ (List.mem_of_getElem? (i := 26) rfl))))) rfl, ⟨by decide +kernel, by decide +kernel, by decide +kernel⟩⟩
set_option maxRecDepth 20000 in
theorem mi_X5_comeOn : Mi yX5_comeOn cX5_comeOn 7 (some .int) 2 := ⟨wg_in (List.mem_append_right _ (List.mem_append_right _ (List.mem_append_right _ (List.mem_append_right _ (List.mem_of_getElem? (i := 28) rfl))))) rfl, wg_in (List.mem_append_right _ (List.mem_append_right _ (List.mem_append_right _ (List.mem_append_right _ (List.mem_of_getElem? (i := 29) rfl))))) rfl, in_X5, wg_in (List.mem_append_right _ (List.mem_append_right _ (List.mem_append_right _ (List.mem_append_right _ (List.mem_of_getElem? (i := 30) rfl))))) rfl, ⟨by decide +kernel, by decide +kernel, by decide +kernel⟩⟩
set_option maxRecDepth 20000 in
theorem mi_X5_kindFor : Mi yX5_kindFor cX5_kindFor 7 (some .int) 2 := ⟨wg_in (List.mem_append_right _ (List.mem_append_right _ (List.mem_append_right _ (List.mem_append_right _ (List.mem_of_getElem? (i := 32) rfl))))) rfl, wg_in (List.mem_append_right _ (List.mem_append_right _ (List.mem_append_right _ (List.mem_append_right _ (List.mem_of_getElem? (i := 33) rfl))))) rfl, in_X5, wg_in (List.mem_append_right _ (List.mem_append_right _ (List.mem_append_right _ (List.mem_append_right _ (List.mem_of_getElem? (i := 34) rfl))))) rfl, ⟨by decide +kernel, by decide +kernel, by decide +kernel⟩⟩
set_option maxRecDepth 20000 in
theorem mi_X5_friendFor : Mi yX5_friendFor cX5_friendFor 8 (some .int) 2 := ⟨wg_in (List.mem_append_right _ (List.mem_append_right _ (List.mem_append_right _ (List.mem_append_right _ (List.mem_of_getElem? (i := 36) rfl))))) rfl, wg_in (List.mem_append_right _ (List.mem_append_right _ (List.mem_append_right _ (List.mem_append_right _ (List.mem_of_getElem? (i := 37) rfl))))) rfl, in_X5, wg_in (List.mem_append_right _ (List.mem_append_right _ (List.mem_append_right _ (List.mem_append_right _ (List.mem_of_getElem? (i := 38) rfl))))) rfl, ⟨by decide +kernel, by decide +kernel, by decide +kernel⟩⟩
set_option maxRecDepth 20000 in
theorem mi_X5_away : Mi yX5_away cX5_away 6 (some .int) 2 := ⟨wg_in (List.mem_append_right _ (List.mem_append_right _ (List.mem_append_right _ (List.mem_append_right _ (List.mem_of_getElem? (i := 40) rfl))))) rfl, wg_in (List.mem_append_right _ (List.mem_append_right _ (List.mem_append_right _ (List.mem_append_right _ (List.mem_of_getElem? (i := 41) rfl))))) rfl, in_X5, wg_in (List.mem_append_right _ (List.mem_append_right _ (List.mem_append_right _ (List.mem_append_right _ (List.mem_of_getElem? (i := 42) rfl))))) rfl, ⟨by decide +kernel, by decide +kernel, by decide +kernel⟩⟩
set_option maxRecDepth 20000 in
theorem mi_X5_fits : Mi yX5_fits cX5_fits 6 (some .int) 2 := ⟨wg_in (List.mem_append_right _ (List.mem_append_right _ (List.mem_append_right _ (List.mem_append_right _ (List.mem_of_getElem? (i := 44) rfl))))) rfl, wg_in (List.mem_append_right _ (List.mem_append_right _ (List.mem_append_right _ (List.mem_append_right _ (List.mem_of_getElem? (i := 45) rfl))))) rfl, in_X5, wg_in (List.mem_append_right _ (List.mem_append_right _ (List.mem_append_right _ (List.mem_append_right _ (List.mem_of_getElem? (i := 46) rfl))))) rfl, ⟨by decide +kernel, by decide +kernel, by decide +kernel⟩⟩
set_option maxRecDepth 20000 in
theorem mi_X5_whyNot : Mi yX5_whyNot cX5_whyNot 4 (some .int) 2 := ⟨wg_in (List.mem_append_right _ (List.mem_append_right _ (List.mem_append_right _ (List.mem_append_right _ (List.mem_of_getElem? (i := 49) rfl))))) rfl, wg_sel (List.mem_map.mpr ⟨_, (show (yX5_whyNot, _) ∈ lw_privs from (List.mem_append_right _ (List.mem_append_right _ (List.mem_append_left _ (List.mem_of_getElem? (i := 3) rfl))))), rfl⟩) rfl, in_X5, wg_in (List.mem_append_right _ (List.mem_append_right _ (List.mem_append_right _ (List.mem_append_right _ (List.mem_of_getElem? (i := 50) rfl))))) rfl, ⟨by decide +kernel, by decide +kernel, by decide +kernel⟩⟩
set_option maxRecDepth 20000 in
theorem mi_X5_whyNone : Mi yX5_whyNone cX5_whyNone 2 (some .int) 1 := ⟨wg_in (List.mem_append_right _ (List.mem_append_right _ (List.mem_append_right _ (List.mem_append_right _ (List.mem_of_getElem? (i := 53) rfl))))) rfl, wg_sel (List.mem_map.mpr ⟨_, (show (yX5_whyNone, _) ∈ lw_privs from (List.mem_append_right _ (List.mem_append_right _ (List.mem_append_left _ (List.mem_of_getElem? (i := 4) rfl))))), rfl⟩) rfl, in_X5, wg_in (List.mem_append_right _ (List.mem_append_right _ (List.mem_append_right _ (List.mem_append_right _ (List.mem_of_getElem? (i := 54) rfl))))) rfl, ⟨by decide +kernel, by decide +kernel, by decide +kernel⟩⟩
set_option maxRecDepth 20000 in
theorem ms_X5_isSheet : Ms yX5_isSheet cX5_isSheet 1 (some .boolean) 1 := ⟨wg_in (List.mem_append_right _ (List.mem_append_right _ (List.mem_append_right _ (List.mem_append_right _ (List.mem_of_getElem? (i := 56) rfl))))) rfl, in_X5, wg_in (List.mem_append_right _ (List.mem_append_right _ (List.mem_append_right _ (List.mem_append_right _ (List.mem_of_getElem? (i := 57) rfl))))) rfl, ⟨by decide +kernel, by decide +kernel, by decide +kernel⟩⟩
set_option maxRecDepth 20000 in
theorem mi_X5_isTold : Mi yX5_isTold cX5_isTold 8 (some .boolean) 3 := ⟨wg_in (List.mem_append_right _ (List.mem_append_right _ (List.mem_append_right _ (List.mem_append_right _ (List.mem_of_getElem? (i := 60) rfl))))) rfl, wg_sel (List.mem_map.mpr ⟨_, (show (yX5_isTold, _) ∈ lw_privs from (List.mem_append_right _ (List.mem_append_right _ (List.mem_append_left _ (List.mem_of_getElem? (i := 5) rfl))))), rfl⟩) rfl, in_X5, wg_in (List.mem_append_right _ (List.mem_append_right _ (List.mem_append_right _ (List.mem_append_right _ (List.mem_of_getElem? (i := 61) rfl))))) rfl, ⟨by decide +kernel, by decide +kernel, by decide +kernel⟩⟩
set_option maxRecDepth 20000 in
theorem mi_X5_mood : Mi yX5_mood cX5_mood 5 (some .int) 2 := ⟨wg_in (List.mem_append_right _ (List.mem_append_right _ (List.mem_append_right _ (List.mem_append_right _ (List.mem_of_getElem? (i := 63) rfl))))) rfl, wg_in (List.mem_append_right _ (List.mem_append_right _ (List.mem_append_right _ (List.mem_append_right _ (List.mem_of_getElem? (i := 64) rfl))))) rfl, in_X5, wg_in (List.mem_append_right _ (List.mem_append_right _ (List.mem_append_right _ (List.mem_append_right _ (List.mem_of_getElem? (i := 65) rfl))))) rfl, ⟨by decide +kernel, by decide +kernel, by decide +kernel⟩⟩
set_option maxRecDepth 20000 in
theorem mi_X5_kinds : Mi yX5_kinds cX5_kinds 6 (some .int) 2 := ⟨wg_in (List.mem_append_right _ (List.mem_append_right _ (List.mem_append_right _ (List.mem_append_right _ (List.mem_of_getElem? (i := 67) rfl))))) rfl, wg_in (List.mem_append_right _ (List.mem_append_right _ (List.mem_append_right _ (List.mem_append_right _ (List.mem_of_getElem? (i := 68) rfl))))) rfl, in_X5, wg_in (List.mem_append_right _ (List.mem_append_right _ (List.mem_append_right _ (List.mem_append_right _ (List.mem_of_getElem? (i := 69) rfl))))) rfl, ⟨by decide +kernel, by decide +kernel, by decide +kernel⟩⟩
set_option maxRecDepth 20000 in
theorem mi_X5_come : Mi yX5_come cX5_come 3 (some .int) 1 := ⟨wg_in (List.mem_append_right _ (List.mem_append_right _ (List.mem_append_right _ (List.mem_append_right _ (List.mem_of_getElem? (i := 71) rfl))))) rfl, wg_in (List.mem_append_right _ (List.mem_append_right _ (List.mem_append_right _ (List.mem_append_right _ (List.mem_of_getElem? (i := 72) rfl))))) rfl, in_X5, wg_in (List.mem_append_right _ (List.mem_append_right _ (List.mem_append_right _ (List.mem_append_right _ (List.mem_of_getElem? (i := 73) rfl))))) rfl, ⟨by decide +kernel, by decide +kernel, by decide +kernel⟩⟩
set_option maxRecDepth 20000 in
theorem mi_X5_draw : Mi yX5_draw cX5_draw 1 (some .int) 0 := ⟨wg_in (List.mem_append_right _ (List.mem_append_right _ (List.mem_append_right _ (List.mem_append_right _ (List.mem_of_getElem? (i := 76) rfl))))) rfl, wg_sel (List.mem_map.mpr ⟨_, (show (yX5_draw, _) ∈ lw_privs from (List.mem_append_right _ (List.mem_append_right _ (List.mem_append_left _ (List.mem_of_getElem? (i := 6) rfl))))), rfl⟩) rfl, in_X5, wg_in (List.mem_append_right _ (List.mem_append_right _ (List.mem_append_right _ (List.mem_append_right _ (List.mem_of_getElem? (i := 77) rfl))))) rfl, ⟨by decide +kernel, by decide +kernel, by decide +kernel⟩⟩
set_option maxRecDepth 20000 in
theorem mi_X5_odds : Mi yX5_odds cX5_odds 9 (some .long) 3 := ⟨wg_in (List.mem_append_right _ (List.mem_append_right _ (List.mem_append_right _ (List.mem_append_right _ (List.mem_of_getElem? (i := 80) rfl))))) rfl, wg_in (List.mem_append_right _ (List.mem_append_right _ (List.mem_append_right _ (List.mem_append_right _ (List.mem_of_getElem? (i := 81) rfl))))) rfl, in_X5, wg_in (List.mem_append_right _ (List.mem_append_right _ (List.mem_append_right _ (List.mem_append_right _ (List.mem_of_getElem? (i := 82) rfl))))) rfl, ⟨by decide +kernel, by decide +kernel, by decide +kernel⟩⟩
set_option maxRecDepth 20000 in
theorem mi_X5_seed : Mi yX5_seed cX5_seed 2 (some .int) 1 := ⟨wg_in (List.mem_append_right _ (List.mem_append_right _ (List.mem_append_right _ (List.mem_append_right _ (List.mem_of_getElem? (i := 85) rfl))))) rfl, wg_in (List.mem_append_right _ (List.mem_append_right _ (List.mem_append_right _ (List.mem_append_right _ (List.mem_of_getElem? (i := 86) rfl))))) rfl, in_X5, wg_in (List.mem_append_right _ (List.mem_append_right _ (List.mem_append_right _ (List.mem_append_right _ (List.mem_of_getElem? (i := 87) rfl))))) rfl, ⟨by decide +kernel, by decide +kernel, by decide +kernel⟩⟩
set_option maxRecDepth 20000 in
theorem mi_X5_feed : Mi yX5_feed cX5_feed 4 (some .int) 2 := ⟨wg_in (List.mem_append_right _ (List.mem_append_right _ (List.mem_append_right _ (List.mem_append_right _ (List.mem_of_getElem? (i := 89) rfl))))) rfl, wg_in (List.mem_append_right _ (List.mem_append_right _ (List.mem_append_right _ (List.mem_append_right _ (List.mem_of_getElem? (i := 90) rfl))))) rfl, in_X5, wg_in (List.mem_append_right _ (List.mem_append_right _ (List.mem_append_right _ (List.mem_append_right _ (List.mem_of_getElem? (i := 91) rfl))))) rfl, ⟨by decide +kernel, by decide +kernel, by decide +kernel⟩⟩
set_option maxRecDepth 20000 in
theorem mi_X5_wipe : Mi yX5_wipe cX5_wipe 2 (some .int) 0 := ⟨wg_in (List.mem_append_right _ (List.mem_append_right _ (List.mem_append_right _ (List.mem_append_right _ (List.mem_of_getElem? (i := 93) rfl))))) rfl, wg_in (List.mem_append_right _ (List.mem_append_right _ (List.mem_append_right _ (List.mem_append_right _ (List.mem_of_getElem? (i := 94) rfl))))) rfl, in_X5, wg_in (List.mem_append_right _ (List.mem_append_right _ (List.mem_append_right _ (List.mem_append_right _ (List.mem_of_getElem? (i := 95) rfl))))) rfl, ⟨by decide +kernel, by decide +kernel, by decide +kernel⟩⟩
set_option maxRecDepth 20000 in
theorem mi_X5_text : Mi yX5_text cX5_text 2 (some .int) 0 := ⟨wg_in (List.mem_append_right _ (List.mem_append_right _ (List.mem_append_right _ (List.mem_append_right _ (List.mem_of_getElem? (i := 97) rfl))))) rfl, wg_in (List.mem_append_right _ (List.mem_append_right _ (List.mem_append_right _ (List.mem_append_right _ (List.mem_of_getElem? (i := 98) rfl))))) rfl, in_X5, wg_in (List.mem_append_right _ (List.mem_append_right _ (List.mem_append_right _ (List.mem_append_right _ (List.mem_of_getElem? (i := 99) rfl))))) rfl, ⟨by decide +kernel, by decide +kernel, by decide +kernel⟩⟩
set_option maxRecDepth 20000 in
theorem mi_X5_items : Mi yX5_items cX5_items 2 (some .int) 0 := ⟨wg_in (List.mem_append_right _ (List.mem_append_right _ (List.mem_append_right _ (List.mem_append_right _ (List.mem_of_getElem? (i := 102) rfl))))) rfl, wg_sel (List.mem_map.mpr ⟨_, (show (yX5_items, _) ∈ lw_privs from (List.mem_append_right _ (List.mem_append_right _ (List.mem_append_left _ (List.mem_of_getElem? (i := 7) rfl))))), rfl⟩) rfl, in_X5, wg_in (List.mem_append_right _ (List.mem_append_right _ (List.mem_append_right _ (List.mem_append_right _ (List.mem_of_getElem? (i := 103) rfl))))) rfl, ⟨by decide +kernel, by decide +kernel, by decide +kernel⟩⟩
set_option maxRecDepth 20000 in
theorem mi_X5_next : Mi yX5_next cX5_next 2 none 0 := ⟨wg_in (List.mem_append_right _ (List.mem_append_right _ (List.mem_append_right _ (List.mem_append_right _ (List.mem_of_getElem? (i := 106) rfl))))) rfl, wg_sel (List.mem_map.mpr ⟨_, (show (yX5_next, _) ∈ lw_privs from (List.mem_append_right _ (List.mem_append_right _ (List.mem_append_left _ (List.mem_of_getElem? (i := 8) rfl))))), rfl⟩) rfl, in_X5, wg_in (List.mem_append_right _ (List.mem_append_right _ (List.mem_append_right _ (List.mem_append_right _ (List.mem_of_getElem? (i := 107) rfl))))) rfl, ⟨by decide +kernel, by decide +kernel, by decide +kernel⟩⟩
set_option maxRecDepth 20000 in
theorem mi_X5_byteAt : Mi yX5_byteAt cX5_byteAt 2 (some .int) 1 := ⟨wg_in (List.mem_append_right _ (List.mem_append_right _ (List.mem_append_right _ (List.mem_append_right _ (List.mem_of_getElem? (i := 110) rfl))))) rfl, wg_sel (List.mem_map.mpr ⟨_, (show (yX5_byteAt, _) ∈ lw_privs from (List.mem_append_right _ (List.mem_append_right _ (List.mem_append_left _ (List.mem_of_getElem? (i := 9) rfl))))), rfl⟩) rfl, in_X5, wg_in (List.mem_append_right _ (List.mem_append_right _ (List.mem_append_right _ (List.mem_append_right _ (List.mem_of_getElem? (i := 111) rfl))))) rfl, ⟨by decide +kernel, by decide +kernel, by decide +kernel⟩⟩
set_option maxRecDepth 20000 in
theorem ms_X5_letter : Ms yX5_letter cX5_letter 1 (some .int) 1 := ⟨wg_in (List.mem_append_right _ (List.mem_append_right _ (List.mem_append_right _ (List.mem_append_right _ (List.mem_of_getElem? (i := 113) rfl))))) rfl, in_X5, wg_in (List.mem_append_right _ (List.mem_append_right _ (List.mem_append_right _ (List.mem_append_right _ (List.mem_of_getElem? (i := 114) rfl))))) rfl, ⟨by decide +kernel, by decide +kernel, by decide +kernel⟩⟩
set_option maxRecDepth 20000 in
theorem ms_X5_isDigit : Ms yX5_isDigit cX5_isDigit 1 (some .boolean) 1 := ⟨wg_in (List.mem_append_right _ (List.mem_append_right _ (List.mem_append_right _ (List.mem_append_right _ (List.mem_of_getElem? (i := 118) rfl))))) rfl, in_X5, wg_in (List.mem_append_right _ (List.mem_append_right _ (List.mem_append_right _ (List.mem_append_right _ (List.mem_of_getElem? (i := 119) rfl))))) rfl, ⟨by decide +kernel, by decide +kernel, by decide +kernel⟩⟩
set_option maxRecDepth 20000 in
theorem mi_X5_item : Mi yX5_item cX5_item 3 none 0 := ⟨wg_in (List.mem_append_right _ (List.mem_append_right _ (List.mem_append_right _ (List.mem_append_right _ (List.mem_of_getElem? (i := 124) rfl))))) rfl, wg_sel (List.mem_map.mpr ⟨_, (show (yX5_item, _) ∈ lw_privs from (List.mem_append_right _ (List.mem_append_right _ (List.mem_append_left _ (List.mem_of_getElem? (i := 10) rfl))))), rfl⟩) rfl, in_X5, wg_in (List.mem_append_right _ (List.mem_append_right _ (List.mem_append_right _ (List.mem_append_right _ (List.mem_of_getElem? (i := 125) rfl))))) rfl, ⟨by decide +kernel, by decide +kernel, by decide +kernel⟩⟩
set_option maxRecDepth 20000 in
theorem mi_X5_kindHere : Mi yX5_kindHere cX5_kindHere 1 (some .int) 0 := ⟨wg_in (List.mem_append_right _ (List.mem_append_right _ (List.mem_append_right _ (List.mem_append_right _ (List.mem_of_getElem? (i := 128) rfl))))) rfl, wg_sel (List.mem_map.mpr ⟨_, (show (yX5_kindHere, _) ∈ lw_privs from (List.mem_append_right _ (List.mem_append_right _ (List.mem_append_left _ (List.mem_of_getElem? (i := 11) rfl))))), rfl⟩) rfl, in_X5, wg_in (List.mem_append_right _ (List.mem_append_right _ (List.mem_append_right _ (List.mem_append_right _ (List.mem_of_getElem? (i := 129) rfl))))) rfl, ⟨by decide +kernel, by decide +kernel, by decide +kernel⟩⟩
set_option maxRecDepth 20000 in
theorem mi_X5_isWord : Mi yX5_isWord cX5_isWord 3 (some .boolean) 1 := ⟨wg_in (List.mem_append_right _ (List.mem_append_right _ (List.mem_append_right _ (List.mem_append_right _ (List.mem_of_getElem? (i := 133) rfl))))) rfl, wg_sel (List.mem_map.mpr ⟨_, (show (yX5_isWord, _) ∈ lw_privs from (List.mem_append_right _ (List.mem_append_right _ (List.mem_append_left _ (List.mem_of_getElem? (i := 12) rfl))))), rfl⟩) rfl, in_X5, wg_in (List.mem_append_right _ (List.mem_append_right _ (List.mem_append_right _ (List.mem_append_right _ (List.mem_of_getElem? (i := 134) rfl))))) rfl, ⟨by decide +kernel, by decide +kernel, by decide +kernel⟩⟩
set_option maxRecDepth 20000 in
theorem mi_X5_setHere : Mi yX5_setHere cX5_setHere 1 (some .int) 0 := ⟨wg_in (List.mem_append_right _ (List.mem_append_right _ (List.mem_append_right _ (List.mem_append_right _ (List.mem_of_getElem? (i := 143) rfl))))) rfl, wg_sel (List.mem_map.mpr ⟨_, (show (yX5_setHere, _) ∈ lw_privs from (List.mem_append_right _ (List.mem_append_right _ (List.mem_append_left _ (List.mem_of_getElem? (i := 13) rfl))))), rfl⟩) rfl, in_X5, wg_in (List.mem_append_right _ (List.mem_append_right _ (List.mem_append_right _ (List.mem_append_right _ (List.mem_of_getElem? (i := 144) rfl))))) rfl, ⟨by decide +kernel, by decide +kernel, by decide +kernel⟩⟩
set_option maxRecDepth 20000 in
theorem mi_X5_residentHere : Mi yX5_residentHere cX5_residentHere 3 none 1 := ⟨wg_in (List.mem_append_right _ (List.mem_append_right _ (List.mem_append_right _ (List.mem_append_right _ (List.mem_of_getElem? (i := 151) rfl))))) rfl, wg_sel (List.mem_map.mpr ⟨_, (show (yX5_residentHere, _) ∈ lw_privs from (List.mem_append_right _ (List.mem_append_right _ (List.mem_append_left _ (List.mem_of_getElem? (i := 14) rfl))))), rfl⟩) rfl, in_X5, wg_in (List.mem_append_right _ (List.mem_append_right _ (List.mem_append_right _ (List.mem_append_right _ (List.mem_of_getElem? (i := 152) rfl))))) rfl, ⟨by decide +kernel, by decide +kernel, by decide +kernel⟩⟩
set_option maxRecDepth 20000 in
theorem mi_X5_wrongHere : Mi yX5_wrongHere cX5_wrongHere 1 none 0 := ⟨wg_in (List.mem_append_right _ (List.mem_append_right _ (List.mem_append_right _ (List.mem_append_right _ (List.mem_of_getElem? (i := 155) rfl))))) rfl, wg_sel (List.mem_map.mpr ⟨_, (show (yX5_wrongHere, _) ∈ lw_privs from (List.mem_append_right _ (List.mem_append_right _ (List.mem_append_left _ (List.mem_of_getElem? (i := 15) rfl))))), rfl⟩) rfl, in_X5, wg_in (List.mem_append_right _ (List.mem_append_right _ (List.mem_append_right _ (List.mem_append_right _ (List.mem_of_getElem? (i := 156) rfl))))) rfl, ⟨by decide +kernel, by decide +kernel, by decide +kernel⟩⟩
set_option maxRecDepth 20000 in
theorem mi_X5_perhaps : Mi yX5_perhaps cX5_perhaps 7 none 4 := ⟨wg_in (List.mem_append_right _ (List.mem_append_right _ (List.mem_append_right _ (List.mem_append_right _ (List.mem_of_getElem? (i := 160) rfl))))) rfl, wg_sel (List.mem_map.mpr ⟨_, (show (yX5_perhaps, _) ∈ lw_privs from (List.mem_append_right _ (List.mem_append_right _ (List.mem_append_right _ (List.mem_of_getElem? (i := 0) rfl))))), rfl⟩) rfl, in_X5, wg_in (List.mem_append_right _ (List.mem_append_right _ (List.mem_append_right _ (List.mem_append_right _ (List.mem_of_getElem? (i := 161) rfl))))) rfl, ⟨by decide +kernel, by decide +kernel, by decide +kernel⟩⟩
set_option maxRecDepth 20000 in
theorem mi_X5_numberHere : Mi yX5_numberHere cX5_numberHere 4 (some .int) 2 := ⟨wg_in (List.mem_append_right _ (List.mem_append_right _ (List.mem_append_right _ (List.mem_append_right _ (List.mem_of_getElem? (i := 164) rfl))))) rfl, wg_sel (List.mem_map.mpr ⟨_, (show (yX5_numberHere, _) ∈ lw_privs from (List.mem_append_right _ (List.mem_append_right _ (List.mem_append_right _ (List.mem_of_getElem? (i := 1) rfl))))), rfl⟩) rfl, in_X5, wg_in (List.mem_append_right _ (List.mem_append_right _ (List.mem_append_right _ (List.mem_append_right _ (List.mem_of_getElem? (i := 165) rfl))))) rfl, ⟨by decide +kernel, by decide +kernel, by decide +kernel⟩⟩
set_option maxRecDepth 20000 in
theorem mi_X5_visitsHere : Mi yX5_visitsHere cX5_visitsHere 3 none 0 := ⟨wg_in (List.mem_append_right _ (List.mem_append_right _ (List.mem_append_right _ (List.mem_append_right _ (List.mem_of_getElem? (i := 171) rfl))))) rfl, wg_sel (List.mem_map.mpr ⟨_, (show (yX5_visitsHere, _) ∈ lw_privs from (List.mem_append_right _ (List.mem_append_right _ (List.mem_append_right _ (List.mem_of_getElem? (i := 2) rfl))))), rfl⟩) rfl, in_X5, wg_in (List.mem_append_right _ (List.mem_append_right _ (List.mem_append_right _ (List.mem_append_right _ (List.mem_of_getElem? (i := 172) rfl))))) rfl, ⟨by decide +kernel, by decide +kernel, by decide +kernel⟩⟩
set_option maxRecDepth 20000 in
theorem mi_X5_hold : Mi yX5_hold cX5_hold 3 (some .int) 2 := ⟨wg_in (List.mem_append_right _ (List.mem_append_right _ (List.mem_append_right _ (List.mem_append_right _ (List.mem_of_getElem? (i := 174) rfl))))) rfl, wg_in (List.mem_append_right _ (List.mem_append_right _ (List.mem_append_right _ (List.mem_append_right _ (List.mem_of_getElem? (i := 175) rfl))))) rfl, in_X5, wg_in (List.mem_append_right _ (List.mem_append_right _ (List.mem_append_right _ (List.mem_append_right _ (List.mem_of_getElem? (i := 176) rfl))))) rfl, ⟨by decide +kernel, by decide +kernel, by decide +kernel⟩⟩
set_option maxRecDepth 20000 in
theorem mi_X5_as : Mi yX5_as cX5_as 5 (some .int) 2 := ⟨wg_in (List.mem_append_right _ (List.mem_append_right _ (List.mem_append_right _ (List.mem_append_right _ (List.mem_of_getElem? (i := 179) rfl))))) rfl, wg_in (List.mem_append_right _ (List.mem_append_right _ (List.mem_append_right _ (List.mem_append_right _ (List.mem_of_getElem? (i := 180) rfl))))) rfl, in_X5, wg_in (List.mem_append_right _ (List.mem_append_right _ (List.mem_append_right _ (List.mem_append_right _ (List.mem_of_getElem? (i := 181) rfl))))) rfl, ⟨by decide +kernel, by decide +kernel, by decide +kernel⟩⟩
set_option maxRecDepth 20000 in
theorem ms_X5_above : Ms yX5_above cX5_above 1 (some .int) 1 := ⟨wg_in (List.mem_append_right _ (List.mem_append_right _ (List.mem_append_right _ (List.mem_append_right _ (List.mem_of_getElem? (i := 183) rfl))))) rfl, in_X5, wg_in (List.mem_append_right _ (List.mem_append_right _ (List.mem_append_right _ (List.mem_append_right _ (List.mem_of_getElem? (i := 184) rfl))))) rfl, ⟨by decide +kernel, by decide +kernel, by decide +kernel⟩⟩
set_option maxRecDepth 20000 in
theorem mi_X5_sheet : Mi yX5_sheet cX5_sheet 5 (some .int) 3 := ⟨wg_in (List.mem_append_right _ (List.mem_append_right _ (List.mem_append_right _ (List.mem_append_right _ (List.mem_of_getElem? (i := 186) rfl))))) rfl, wg_in (List.mem_append_right _ (List.mem_append_right _ (List.mem_append_right _ (List.mem_append_right _ (List.mem_of_getElem? (i := 187) rfl))))) rfl, in_X5, wg_in (List.mem_append_right _ (List.mem_append_right _ (List.mem_append_right _ (List.mem_append_right _ (List.mem_of_getElem? (i := 188) rfl))))) rfl, ⟨by decide +kernel, by decide +kernel, by decide +kernel⟩⟩
set_option maxRecDepth 20000 in
theorem mi_X5_write : Mi yX5_write cX5_write 5 (some .int) 3 := ⟨wg_in (List.mem_append_right _ (List.mem_append_right _ (List.mem_append_right _ (List.mem_append_right _ (List.mem_of_getElem? (i := 190) rfl))))) rfl, wg_in (List.mem_append_right _ (List.mem_append_right _ (List.mem_append_right _ (List.mem_append_right _ (List.mem_of_getElem? (i := 191) rfl))))) rfl, in_X5, wg_in (List.mem_append_right _ (List.mem_append_right _ (List.mem_append_right _ (List.mem_append_right _ (List.mem_of_getElem? (i := 192) rfl))))) rfl, ⟨by decide +kernel, by decide +kernel, by decide +kernel⟩⟩
set_option maxRecDepth 20000 in
theorem mi_X5_copy : Mi yX5_copy cX5_copy 7 (some .int) 5 := ⟨wg_in (List.mem_append_right _ (List.mem_append_right _ (List.mem_append_right _ (List.mem_append_right _ (List.mem_of_getElem? (i := 194) rfl))))) rfl, wg_in (List.mem_append_right _ (List.mem_append_right _ (List.mem_append_right _ (List.mem_append_right _ (List.mem_of_getElem? (i := 195) rfl))))) rfl, in_X5, wg_in (List.mem_append_right _ (List.mem_append_right _ (List.mem_append_right _ (List.mem_append_right _ (List.mem_of_getElem? (i := 196) rfl))))) rfl, ⟨by decide +kernel, by decide +kernel, by decide +kernel⟩⟩
set_option maxRecDepth 20000 in
theorem mi_X5_load : Mi yX5_load cX5_load 4 (some .int) 1 := ⟨wg_in (List.mem_append_right _ (List.mem_append_right _ (List.mem_append_right _ (List.mem_append_right _ (List.mem_of_getElem? (i := 198) rfl))))) rfl, wg_in (List.mem_append_right _ (List.mem_append_right _ (List.mem_append_right _ (List.mem_append_right _ (List.mem_of_getElem? (i := 199) rfl))))) rfl, in_X5, wg_in (List.mem_append_right _ (List.mem_append_right _ (List.mem_append_right _ (List.mem_append_right _ (List.mem_of_getElem? (i := 200) rfl))))) rfl, ⟨by decide +kernel, by decide +kernel, by decide +kernel⟩⟩
set_option maxRecDepth 20000 in
theorem mi_X5_judge : Mi yX5_judge cX5_judge 4 (some .int) 1 := ⟨wg_in (List.mem_append_right _ (List.mem_append_right _ (List.mem_append_right _ (List.mem_append_right _ (List.mem_of_getElem? (i := 202) rfl))))) rfl, wg_in (List.mem_append_right _ (List.mem_append_right _ (List.mem_append_right _ (List.mem_append_right _ (List.mem_of_getElem? (i := 203) rfl))))) rfl, in_X5, wg_in (List.mem_append_right _ (List.mem_append_right _ (List.mem_append_right _ (List.mem_append_right _ (List.mem_of_getElem? (i := 204) rfl))))) rfl, ⟨by decide +kernel, by decide +kernel, by decide +kernel⟩⟩
set_option maxRecDepth 20000 in
theorem mi_X5_image : Mi yX5_image cX5_image 1 (some .int) 0 := ⟨wg_in (List.mem_append_right _ (List.mem_append_right _ (List.mem_append_right _ (List.mem_append_right _ (List.mem_of_getElem? (i := 206) rfl))))) rfl, wg_in (List.mem_append_right _ (List.mem_append_right _ (List.mem_append_right _ (List.mem_append_right _ (List.mem_of_getElem? (i := 207) rfl))))) rfl, in_X5, wg_in (List.mem_append_right _ (List.mem_append_right _ (List.mem_append_right _ (List.mem_append_right _ (List.mem_of_getElem? (i := 208) rfl))))) rfl, ⟨by decide +kernel, by decide +kernel, by decide +kernel⟩⟩
set_option maxRecDepth 20000 in
theorem mi_X5_undo : Mi yX5_undo cX5_undo 1 (some .int) 0 := ⟨wg_in (List.mem_append_right _ (List.mem_append_right _ (List.mem_append_right _ (List.mem_append_right _ (List.mem_of_getElem? (i := 210) rfl))))) rfl, wg_in (List.mem_append_right _ (List.mem_append_right _ (List.mem_append_right _ (List.mem_append_right _ (List.mem_of_getElem? (i := 211) rfl))))) rfl, in_X5, wg_in (List.mem_append_right _ (List.mem_append_right _ (List.mem_append_right _ (List.mem_append_right _ (List.mem_of_getElem? (i := 212) rfl))))) rfl, ⟨by decide +kernel, by decide +kernel, by decide +kernel⟩⟩
set_option maxRecDepth 20000 in
theorem mi_X5_tear : Mi yX5_tear cX5_tear 2 (some .int) 0 := ⟨wg_in (List.mem_append_right _ (List.mem_append_right _ (List.mem_append_right _ (List.mem_append_right _ (List.mem_of_getElem? (i := 214) rfl))))) rfl, wg_in (List.mem_append_right _ (List.mem_append_right _ (List.mem_append_right _ (List.mem_append_right _ (List.mem_of_getElem? (i := 215) rfl))))) rfl, in_X5, wg_in (List.mem_append_right _ (List.mem_append_right _ (List.mem_append_right _ (List.mem_append_right _ (List.mem_of_getElem? (i := 216) rfl))))) rfl, ⟨by decide +kernel, by decide +kernel, by decide +kernel⟩⟩
set_option maxRecDepth 20000 in
theorem mi_X5_count : Mi yX5_count cX5_count 2 (some .int) 1 := ⟨wg_in (List.mem_append_right _ (List.mem_append_right _ (List.mem_append_right _ (List.mem_append_right _ (List.mem_of_getElem? (i := 218) rfl))))) rfl, wg_in (List.mem_append_right _ (List.mem_append_right _ (List.mem_append_right _ (List.mem_append_right _ (List.mem_of_getElem? (i := 219) rfl))))) rfl, in_X5, wg_in (List.mem_append_right _ (List.mem_append_right _ (List.mem_append_right _ (List.mem_append_right _ (List.mem_of_getElem? (i := 220) rfl))))) rfl, ⟨by decide +kernel, by decide +kernel, by decide +kernel⟩⟩
set_option maxRecDepth 20000 in
theorem mi_X5_holding : Mi yX5_holding cX5_holding 3 (some .int) 0 := ⟨wg_in (List.mem_append_right _ (List.mem_append_right _ (List.mem_append_right _ (List.mem_append_right _ (List.mem_of_getElem? (i := 223) rfl))))) rfl, wg_sel (List.mem_map.mpr ⟨_, (show (yX5_holding, _) ∈ lw_privs from (List.mem_append_right _ (List.mem_append_right _ (List.mem_append_right _ (List.mem_of_getElem? (i := 3) rfl))))), rfl⟩) rfl, in_X5, wg_in (List.mem_append_right _ (List.mem_append_right _ (List.mem_append_right _ (List.mem_append_right _ (List.mem_of_getElem? (i := 224) rfl))))) rfl, ⟨by decide +kernel, by decide +kernel, by decide +kernel⟩⟩
set_option maxRecDepth 20000 in
theorem mi_X5_status : Mi yX5_status cX5_status 4 (some .int) 1 := ⟨wg_in (List.mem_append_right _ (List.mem_append_right _ (List.mem_append_right _ (List.mem_append_right _ (List.mem_of_getElem? (i := 226) rfl))))) rfl, wg_in (List.mem_append_right _ (List.mem_append_right _ (List.mem_append_right _ (List.mem_append_right _ (List.mem_of_getElem? (i := 227) rfl))))) rfl, in_X5, wg_in (List.mem_append_right _ (List.mem_append_right _ (List.mem_append_right _ (List.mem_append_right _ (List.mem_of_getElem? (i := 228) rfl))))) rfl, ⟨by decide +kernel, by decide +kernel, by decide +kernel⟩⟩
set_option maxRecDepth 20000 in
theorem st_arraycopy : Cond.static arraycopyName ∈ wg_ok := wg_in (List.mem_append_right _ (List.mem_append_left _ (List.mem_of_getElem? (i := 137) rfl))) rfl
set_option maxRecDepth 20000 in
theorem na_arraycopy : Cond.native arraycopyName ∈ wg_ok := wg_in (List.mem_append_right _ (List.mem_append_left _ (List.mem_of_getElem? (i := 138) rfl))) rfl
set_option maxRecDepth 20000 in
theorem iw_X0 : ∀ v ∈ u_ws RX0 TX0 10, v ∈ wg_ok := fun v h => List.mem_filter.mpr ⟨List.mem_append_right _ ((by decide +kernel : ∀ v ∈ u_ws RX0 TX0 10, v ∈ tables_1) v h), (by decide +kernel : ∀ v ∈ u_ws RX0 TX0 10, goodWord v = true) v h⟩
set_option maxRecDepth 20000 in
theorem iw_X1 : ∀ v ∈ u_ws RX1 TX1 5, v ∈ wg_ok := fun v h => List.mem_filter.mpr ⟨List.mem_append_right _ ((by decide +kernel : ∀ v ∈ u_ws RX1 TX1 5, v ∈ tables_1) v h), (by decide +kernel : ∀ v ∈ u_ws RX1 TX1 5, goodWord v = true) v h⟩
set_option maxRecDepth 20000 in
theorem iw_X2 : ∀ v ∈ u_ws RX2 TX2 3, v ∈ wg_ok := fun v h => List.mem_filter.mpr ⟨List.mem_append_right _ ((by decide +kernel : ∀ v ∈ u_ws RX2 TX2 3, v ∈ tables_1) v h), (by decide +kernel : ∀ v ∈ u_ws RX2 TX2 3, goodWord v = true) v h⟩
set_option maxRecDepth 20000 in
theorem iw_X3 : ∀ v ∈ u_ws RX3 TX3 6, v ∈ wg_ok := fun v h => List.mem_filter.mpr ⟨List.mem_append_right _ ((by decide +kernel : ∀ v ∈ u_ws RX3 TX3 6, v ∈ tables_1) v h), (by decide +kernel : ∀ v ∈ u_ws RX3 TX3 6, goodWord v = true) v h⟩
set_option maxRecDepth 20000 in
theorem iw_X4 : ∀ v ∈ u_ws RX4 TX4 7, v ∈ wg_ok := fun v h => List.mem_filter.mpr ⟨List.mem_append_right _ ((by decide +kernel : ∀ v ∈ u_ws RX4 TX4 7, v ∈ tables_1) v h), (by decide +kernel : ∀ v ∈ u_ws RX4 TX4 7, goodWord v = true) v h⟩
set_option maxRecDepth 20000 in
theorem iw_X5 : ∀ v ∈ u_ws RX5 TX5 17, v ∈ wg_ok := fun v h => List.mem_filter.mpr ⟨List.mem_append_right _ ((by decide +kernel : ∀ v ∈ u_ws RX5 TX5 17, v ∈ tables_1) v h), (by decide +kernel : ∀ v ∈ u_ws RX5 TX5 17, goodWord v = true) v h⟩
end
section
abbrev Rm (f lo : Nat) : Room := { frames := f, cells := 0, slots := 0, locals := lo }
theorem rk_of {f lo n f' lo' : Nat} (h : (Nat.ble (f' + 1) f && Nat.ble (8 + (n + 11) + lo') lo) = true) : Rk (Rm f lo) n (Rm f' lo') := by
  have h2 := Bool.and_eq_true_iff.mp h
  exact ⟨rfl, rfl, Nat.le_of_ble_eq_true h2.1, Nat.le_of_ble_eq_true h2.2⟩
/-- posts that say all -/
abbrev Px (e : Int32) (m : Me) : Int32 → Me → Prop := fun r u => r = e ∧ u = m
abbrev Pl (e : Int64) (m : Me) : Int64 → Me → Prop := fun r u => r = e ∧ u = m
abbrev Pv (m : Me) : Me → Prop := fun u => u = m
section KX
variable {w : WC} {x : Cy} {nL : Nat} {μ : Me} {pc q : Nat} {lv : List (Nat × Value)} {st : List Value}
theorem px_k {e : Int32} {m : Me} (k : V w x nL m q lv (.int e :: st)) : ∀ (v : Int32) (u : Me), Px e m v u → V w x nL u q lv (.int v :: st) := fun v u h => by obtain ⟨h1, h2⟩ := h; subst h1; subst h2; exact k
theorem pl_k {e : Int64} {m : Me} (k : V w x nL m q lv (.long e :: st)) : ∀ (v : Int64) (u : Me), Pl e m v u → V w x nL u q lv (.long v :: st) := fun v u h => by obtain ⟨h1, h2⟩ := h; subst h1; subst h2; exact k
theorem pv_k {m : Me} (k : V w x nL m q lv st) : ∀ (u : Me), Pv m u → V w x nL u q lv st := fun u h => by subst h; exact k
theorem v_case (v : Int32) {a : Int32} (h1 : a = v → V w x nL μ pc lv (.int a :: st)) (h2 : ¬ a = v → V w x nL μ pc lv (.int a :: st)) : V w x nL μ pc lv (.int a :: st) := if h : a = v then h1 h else h2 h
theorem v_stk {st' : List Value} (h : st = st') (k : V w x nL μ pc lv st') : V w x nL μ pc lv st := h ▸ k
end KX
/-- a resident; a home with all its cells; a sheet; the tape; the object -/
def Rs (w : WC) (k : Nat) : Prop := k < w_N w ∧ w_sh w k = shO 1 [sI, sI, sI, sI, sI]
def Ia (w : WC) (k n : Nat) : Prop := k < w_N w ∧ w_sh w k = shI n
def HmO (w : WC) (k : Nat) : Prop := k < w_N w ∧ w_sh w k = shO 0 [sR (k + 1), sR (k + 2), sR (k + 3), sI, sI, sI, sR (k + 4), sI, sI, sI]
def HmR (w : WC) (k : Nat) : Prop := k < w_N w ∧ w_sh w k = shA 2 8 (k + 2)
def Hm (w : WC) (k : Nat) : Prop := HmO w k ∧ Ia w (k + 1) 4 ∧ Ia w (k + 2) 6 ∧ HmR w (k + 3) ∧ Ia w (k + 4) 10 ∧ ∀ r, r < 8 → Rs w (k + 3 + 2 + r)
def ShO (w : WC) (k : Nat) : Prop := k < w_N w ∧ w_sh w k = shO 2 [sI, sI, sR (k + 4)]
def Sht (w : WC) (k : Nat) : Prop := ShO w k ∧ Ia w (k + 4) 40
def TpO (w : WC) (k : Nat) : Prop := k < w_N w ∧ w_sh w k = shO 3 [sR (k + 1), sI, sI, sI, sI, sI]
def Tp (w : WC) (k : Nat) : Prop := TpO w k ∧ Ia w (k + 1) 120
def SvO (w : WC) (k : Nat) : Prop := k < w_N w ∧ w_sh w k = shO 4 [sR (k + 1), sR (k + 14), sR (k + 27), sI, sR (k + 40), sR (k + 42), sR (k + 51)]
def SvS (w : WC) (k : Nat) : Prop := k < w_N w ∧ w_sh w k = shA 3 4 (k + 1)
def Sv (w : WC) : Prop := SvO w 0 ∧ Hm w 1 ∧ Hm w 14 ∧ Hm w 27 ∧ Tp w 40 ∧ SvS w 42 ∧ (∀ r, r < 4 → Sht w (43 + r)) ∧ Ia w 51 7 ∧ w_N w = 52
def shHome (k i : Nat) : Sh := match i with
  | 0 => shO 0 [sR (k + 1), sR (k + 2), sR (k + 3), sI, sI, sI, sR (k + 4), sI, sI, sI]
  | 1 => shI 4
  | 2 => shI 6
  | 3 => shA 2 8 (k + 5)
  | 4 => shI 10
  | _ => shO 1 [sI, sI, sI, sI, sI]
def shC (i : Nat) : Sh := if i = 0 then shO 4 [sR 1, sR 14, sR 27, sI, sR 40, sR 42, sR 51] else if i < 14 then shHome 1 (i - 1) else if i < 27 then shHome 14 (i - 14) else if i < 40 then shHome 27 (i - 27) else if i = 40 then shO 3 [sR 41, sI, sI, sI, sI, sI] else if i = 41 then shI 120 else if i = 42 then shA 3 4 43 else if i < 47 then shO 2 [sI, sI, sR (i + 4)] else if i < 51 then shI 40 else shI 7
theorem Sv_of {w : WC} (h1 : w_sh w = shC) (h2 : w_N w = 52) : Sv w := by
  have c : ∀ k, k < 52 → k < w_N w := fun k h => by rw [h2]; exact h
  have hm : ∀ k, k = 1 ∨ k = 14 ∨ k = 27 → Hm w k := by
    intro k hk
    refine ⟨⟨c _ (by omega), ?_⟩, ⟨c _ (by omega), ?_⟩, ⟨c _ (by omega), ?_⟩, ⟨c _ (by omega), ?_⟩, ⟨c _ (by omega), ?_⟩, fun r hr => ⟨c _ (by omega), ?_⟩⟩ <;> rw [h1]
    · rcases hk with rfl | rfl | rfl <;> rfl
    · rcases hk with rfl | rfl | rfl <;> rfl
    · rcases hk with rfl | rfl | rfl <;> rfl
    · rcases hk with rfl | rfl | rfl <;> rfl
    · rcases hk with rfl | rfl | rfl <;> rfl
    · have : r = 0 ∨ r = 1 ∨ r = 2 ∨ r = 3 ∨ r = 4 ∨ r = 5 ∨ r = 6 ∨ r = 7 := by omega
      rcases hk with rfl | rfl | rfl <;> rcases this with rfl | rfl | rfl | rfl | rfl | rfl | rfl | rfl <;> rfl
  refine ⟨⟨c _ (by omega), by rw [h1]; rfl⟩, hm 1 (by omega), hm 14 (by omega), hm 27 (by omega), ⟨⟨c _ (by omega), by rw [h1]; rfl⟩, ⟨c _ (by omega), by rw [h1]; rfl⟩⟩, ⟨c _ (by omega), by rw [h1]; rfl⟩, fun r hr => ?_, ⟨c _ (by omega), by rw [h1]; rfl⟩, h2⟩
  have : r = 0 ∨ r = 1 ∨ r = 2 ∨ r = 3 := by omega
  refine ⟨⟨c _ (by omega), ?_⟩, ⟨c _ (by omega), ?_⟩⟩ <;> rw [h1] <;> rcases this with rfl | rfl | rfl | rfl <;> rfl
/-- the model -/
def MdO (w : WC) (k : Nat) : Prop := k < w_N w ∧ w_sh w k = shO 5 [sR (k + 1), sR (k + 2), sR (k + 3), sR (k + 4), sI, sR (k + 5), sR (k + 6), sI, sI, sI, sI, sL, sI, sR (k + 7), sR (k + 8), sR (k + 9), sR (k + 10)]
def Ba (w : WC) (k n : Nat) : Prop := k < w_N w ∧ w_sh w k = shB n
def shM (i : Nat) : Sh := match i with
  | 0 => shO 5 [sR 1, sR 2, sR 3, sR 4, sI, sR 5, sR 6, sI, sI, sI, sI, sL, sI, sR 7, sR 8, sR 9, sR 10]
  | 1 => shI 63
  | 2 => shI 63
  | 3 => shI 63
  | 4 => shI 63
  | 5 => shI 7
  | 6 => shB 120
  | 7 => shI 4
  | 8 => shI 4
  | 9 => shI 160
  | _ => shI 40
def Md (w : WC) : Prop := MdO w 0 ∧ Ia w 1 63 ∧ Ia w 2 63 ∧ Ia w 3 63 ∧ Ia w 4 63 ∧ Ia w 5 7 ∧ Ba w 6 120 ∧ Ia w 7 4 ∧ Ia w 8 4 ∧ Ia w 9 160 ∧ Ia w 10 40 ∧ (∀ j, j < w_N w → j ≠ 0 → noL (w_sh w j) = true)
theorem Md_of {w : WC} (h1 : w_sh w = shM) (h2 : w_N w = 11) : Md w := by
  have c : ∀ k, k < 11 → k < w_N w := fun k h => by rw [h2]; exact h
  refine ⟨⟨c _ (by omega), by rw [h1]; rfl⟩, ⟨c _ (by omega), by rw [h1]; rfl⟩, ⟨c _ (by omega), by rw [h1]; rfl⟩, ⟨c _ (by omega), by rw [h1]; rfl⟩, ⟨c _ (by omega), by rw [h1]; rfl⟩, ⟨c _ (by omega), by rw [h1]; rfl⟩, ⟨c _ (by omega), by rw [h1]; rfl⟩, ⟨c _ (by omega), by rw [h1]; rfl⟩, ⟨c _ (by omega), by rw [h1]; rfl⟩, ⟨c _ (by omega), by rw [h1]; rfl⟩, ⟨c _ (by omega), by rw [h1]; rfl⟩, fun j hj h0 => ?_⟩
  rw [h2] at hj
  rw [h1]
  have : j = 1 ∨ j = 2 ∨ j = 3 ∨ j = 4 ∨ j = 5 ∨ j = 6 ∨ j = 7 ∨ j = 8 ∨ j = 9 ∨ j = 10 := by omega
  rcases this with rfl | rfl | rfl | rfl | rfl | rfl | rfl | rfl | rfl | rfl <;> rfl
section FIELDS
variable {w : WC} {x : Cy} {nL : Nat} {μ : Me} {pc q idx kk : Nat} {lv : List (Nat × Value)} {st : List Value} {cc : ByteArray} {own : String} {rt : Option FieldType} {rm : Room}

theorem g_X0_settings (C : Cx w x cc nL own rt rm) (hk : HmO w kk) (hd : decode cc pc = .ok (.getfield idx, 3)) (hl : Cond.fieldLink own idx "SundayVisits$Home" "settings" "[I" ∈ wg_ok) (hq : pc + 3 = q) (k : V w x nL μ q lv (.ref (w_ad w (kk + 1)) :: st)) : V w x nL μ pc lv (.ref (w_ad w kk) :: st) := v_getr (i := 0) (T := TX0) (n := 10) (cn := RX0) C hd hk.1 hk.2 rfl rfl (by decide) iw_X0 hl hq k
theorem g_X0_list (C : Cx w x cc nL own rt rm) (hk : HmO w kk) (hd : decode cc pc = .ok (.getfield idx, 3)) (hl : Cond.fieldLink own idx "SundayVisits$Home" "list" "[I" ∈ wg_ok) (hq : pc + 3 = q) (k : V w x nL μ q lv (.ref (w_ad w (kk + 2)) :: st)) : V w x nL μ pc lv (.ref (w_ad w kk) :: st) := v_getr (i := 1) (T := TX0) (n := 10) (cn := RX0) C hd hk.1 hk.2 rfl rfl (by decide) iw_X0 hl hq k
theorem g_X0_residents (C : Cx w x cc nL own rt rm) (hk : HmO w kk) (hd : decode cc pc = .ok (.getfield idx, 3)) (hl : Cond.fieldLink own idx "SundayVisits$Home" "residents" "[LSundayVisits$Resident;" ∈ wg_ok) (hq : pc + 3 = q) (k : V w x nL μ q lv (.ref (w_ad w (kk + 3)) :: st)) : V w x nL μ pc lv (.ref (w_ad w kk) :: st) := v_getr (i := 2) (T := TX0) (n := 10) (cn := RX0) C hd hk.1 hk.2 rfl rfl (by decide) iw_X0 hl hq k
theorem g_X0_size (C : Cx w x cc nL own rt rm) (hk : HmO w kk) (hd : decode cc pc = .ok (.getfield idx, 3)) (hl : Cond.fieldLink own idx "SundayVisits$Home" "size" "I" ∈ wg_ok) (hq : pc + 3 = q) (k : V w x nL μ q lv (.int (μ.1 kk 3) :: st)) : V w x nL μ pc lv (.ref (w_ad w kk) :: st) := v_geti (i := 3) (T := TX0) (n := 10) (cn := RX0) C hd hk.1 hk.2 rfl rfl (by decide) iw_X0 hl hq k
theorem p_X0_size (C : Cx w x cc nL own rt rm) {v : Int32} (hk : HmO w kk) (hd : decode cc pc = .ok (.putfield idx, 3)) (hl : Cond.fieldLink own idx "SundayVisits$Home" "size" "I" ∈ wg_ok) (hq : pc + 3 = q) (k : V w x nL (up μ kk 3 v) q lv st) : V w x nL μ pc lv (.int v :: .ref (w_ad w kk) :: st) := v_puti (i := 3) (T := TX0) (n := 10) (cn := RX0) (ty0 := tyX0) C hd hk.1 hk.2 rfl rfl (by decide) iw_X0 tyX0_ok nmX0 hl rfl rfl rfl hq k
theorem g_X0_sunday (C : Cx w x cc nL own rt rm) (hk : HmO w kk) (hd : decode cc pc = .ok (.getfield idx, 3)) (hl : Cond.fieldLink own idx "SundayVisits$Home" "sunday" "I" ∈ wg_ok) (hq : pc + 3 = q) (k : V w x nL μ q lv (.int (μ.1 kk 4) :: st)) : V w x nL μ pc lv (.ref (w_ad w kk) :: st) := v_geti (i := 4) (T := TX0) (n := 10) (cn := RX0) C hd hk.1 hk.2 rfl rfl (by decide) iw_X0 hl hq k
theorem p_X0_sunday (C : Cx w x cc nL own rt rm) {v : Int32} (hk : HmO w kk) (hd : decode cc pc = .ok (.putfield idx, 3)) (hl : Cond.fieldLink own idx "SundayVisits$Home" "sunday" "I" ∈ wg_ok) (hq : pc + 3 = q) (k : V w x nL (up μ kk 4 v) q lv st) : V w x nL μ pc lv (.int v :: .ref (w_ad w kk) :: st) := v_puti (i := 4) (T := TX0) (n := 10) (cn := RX0) (ty0 := tyX0) C hd hk.1 hk.2 rfl rfl (by decide) iw_X0 tyX0_ok nmX0 hl rfl rfl rfl hq k
theorem g_X0_z (C : Cx w x cc nL own rt rm) (hk : HmO w kk) (hd : decode cc pc = .ok (.getfield idx, 3)) (hl : Cond.fieldLink own idx "SundayVisits$Home" "z" "I" ∈ wg_ok) (hq : pc + 3 = q) (k : V w x nL μ q lv (.int (μ.1 kk 5) :: st)) : V w x nL μ pc lv (.ref (w_ad w kk) :: st) := v_geti (i := 5) (T := TX0) (n := 10) (cn := RX0) C hd hk.1 hk.2 rfl rfl (by decide) iw_X0 hl hq k
theorem p_X0_z (C : Cx w x cc nL own rt rm) {v : Int32} (hk : HmO w kk) (hd : decode cc pc = .ok (.putfield idx, 3)) (hl : Cond.fieldLink own idx "SundayVisits$Home" "z" "I" ∈ wg_ok) (hq : pc + 3 = q) (k : V w x nL (up μ kk 5 v) q lv st) : V w x nL μ pc lv (.int v :: .ref (w_ad w kk) :: st) := v_puti (i := 5) (T := TX0) (n := 10) (cn := RX0) (ty0 := tyX0) C hd hk.1 hk.2 rfl rfl (by decide) iw_X0 tyX0_ok nmX0 hl rfl rfl rfl hq k
theorem g_X0_spots (C : Cx w x cc nL own rt rm) (hk : HmO w kk) (hd : decode cc pc = .ok (.getfield idx, 3)) (hl : Cond.fieldLink own idx "SundayVisits$Home" "spots" "[I" ∈ wg_ok) (hq : pc + 3 = q) (k : V w x nL μ q lv (.ref (w_ad w (kk + 4)) :: st)) : V w x nL μ pc lv (.ref (w_ad w kk) :: st) := v_getr (i := 6) (T := TX0) (n := 10) (cn := RX0) C hd hk.1 hk.2 rfl rfl (by decide) iw_X0 hl hq k
theorem g_X0_visited (C : Cx w x cc nL own rt rm) (hk : HmO w kk) (hd : decode cc pc = .ok (.getfield idx, 3)) (hl : Cond.fieldLink own idx "SundayVisits$Home" "visited" "I" ∈ wg_ok) (hq : pc + 3 = q) (k : V w x nL μ q lv (.int (μ.1 kk 7) :: st)) : V w x nL μ pc lv (.ref (w_ad w kk) :: st) := v_geti (i := 7) (T := TX0) (n := 10) (cn := RX0) C hd hk.1 hk.2 rfl rfl (by decide) iw_X0 hl hq k
theorem p_X0_visited (C : Cx w x cc nL own rt rm) {v : Int32} (hk : HmO w kk) (hd : decode cc pc = .ok (.putfield idx, 3)) (hl : Cond.fieldLink own idx "SundayVisits$Home" "visited" "I" ∈ wg_ok) (hq : pc + 3 = q) (k : V w x nL (up μ kk 7 v) q lv st) : V w x nL μ pc lv (.int v :: .ref (w_ad w kk) :: st) := v_puti (i := 7) (T := TX0) (n := 10) (cn := RX0) (ty0 := tyX0) C hd hk.1 hk.2 rfl rfl (by decide) iw_X0 tyX0_ok nmX0 hl rfl rfl rfl hq k
theorem g_X0_sharing (C : Cx w x cc nL own rt rm) (hk : HmO w kk) (hd : decode cc pc = .ok (.getfield idx, 3)) (hl : Cond.fieldLink own idx "SundayVisits$Home" "sharing" "I" ∈ wg_ok) (hq : pc + 3 = q) (k : V w x nL μ q lv (.int (μ.1 kk 8) :: st)) : V w x nL μ pc lv (.ref (w_ad w kk) :: st) := v_geti (i := 8) (T := TX0) (n := 10) (cn := RX0) C hd hk.1 hk.2 rfl rfl (by decide) iw_X0 hl hq k
theorem p_X0_sharing (C : Cx w x cc nL own rt rm) {v : Int32} (hk : HmO w kk) (hd : decode cc pc = .ok (.putfield idx, 3)) (hl : Cond.fieldLink own idx "SundayVisits$Home" "sharing" "I" ∈ wg_ok) (hq : pc + 3 = q) (k : V w x nL (up μ kk 8 v) q lv st) : V w x nL μ pc lv (.int v :: .ref (w_ad w kk) :: st) := v_puti (i := 8) (T := TX0) (n := 10) (cn := RX0) (ty0 := tyX0) C hd hk.1 hk.2 rfl rfl (by decide) iw_X0 tyX0_ok nmX0 hl rfl rfl rfl hq k
theorem g_X0_helped (C : Cx w x cc nL own rt rm) (hk : HmO w kk) (hd : decode cc pc = .ok (.getfield idx, 3)) (hl : Cond.fieldLink own idx "SundayVisits$Home" "helped" "I" ∈ wg_ok) (hq : pc + 3 = q) (k : V w x nL μ q lv (.int (μ.1 kk 9) :: st)) : V w x nL μ pc lv (.ref (w_ad w kk) :: st) := v_geti (i := 9) (T := TX0) (n := 10) (cn := RX0) C hd hk.1 hk.2 rfl rfl (by decide) iw_X0 hl hq k
theorem p_X0_helped (C : Cx w x cc nL own rt rm) {v : Int32} (hk : HmO w kk) (hd : decode cc pc = .ok (.putfield idx, 3)) (hl : Cond.fieldLink own idx "SundayVisits$Home" "helped" "I" ∈ wg_ok) (hq : pc + 3 = q) (k : V w x nL (up μ kk 9 v) q lv st) : V w x nL μ pc lv (.int v :: .ref (w_ad w kk) :: st) := v_puti (i := 9) (T := TX0) (n := 10) (cn := RX0) (ty0 := tyX0) C hd hk.1 hk.2 rfl rfl (by decide) iw_X0 tyX0_ok nmX0 hl rfl rfl rfl hq k
theorem g_X1_kind (C : Cx w x cc nL own rt rm) (hk : Rs w kk) (hd : decode cc pc = .ok (.getfield idx, 3)) (hl : Cond.fieldLink own idx "SundayVisits$Resident" "kind" "I" ∈ wg_ok) (hq : pc + 3 = q) (k : V w x nL μ q lv (.int (μ.1 kk 0) :: st)) : V w x nL μ pc lv (.ref (w_ad w kk) :: st) := v_geti (i := 0) (T := TX1) (n := 5) (cn := RX1) C hd hk.1 hk.2 rfl rfl (by decide) iw_X1 hl hq k
theorem p_X1_kind (C : Cx w x cc nL own rt rm) {v : Int32} (hk : Rs w kk) (hd : decode cc pc = .ok (.putfield idx, 3)) (hl : Cond.fieldLink own idx "SundayVisits$Resident" "kind" "I" ∈ wg_ok) (hq : pc + 3 = q) (k : V w x nL (up μ kk 0 v) q lv st) : V w x nL μ pc lv (.int v :: .ref (w_ad w kk) :: st) := v_puti (i := 0) (T := TX1) (n := 5) (cn := RX1) (ty0 := tyX1) C hd hk.1 hk.2 rfl rfl (by decide) iw_X1 tyX1_ok nmX1 hl rfl rfl rfl hq k
theorem g_X1_mood (C : Cx w x cc nL own rt rm) (hk : Rs w kk) (hd : decode cc pc = .ok (.getfield idx, 3)) (hl : Cond.fieldLink own idx "SundayVisits$Resident" "mood" "I" ∈ wg_ok) (hq : pc + 3 = q) (k : V w x nL μ q lv (.int (μ.1 kk 1) :: st)) : V w x nL μ pc lv (.ref (w_ad w kk) :: st) := v_geti (i := 1) (T := TX1) (n := 5) (cn := RX1) C hd hk.1 hk.2 rfl rfl (by decide) iw_X1 hl hq k
theorem p_X1_mood (C : Cx w x cc nL own rt rm) {v : Int32} (hk : Rs w kk) (hd : decode cc pc = .ok (.putfield idx, 3)) (hl : Cond.fieldLink own idx "SundayVisits$Resident" "mood" "I" ∈ wg_ok) (hq : pc + 3 = q) (k : V w x nL (up μ kk 1 v) q lv st) : V w x nL μ pc lv (.int v :: .ref (w_ad w kk) :: st) := v_puti (i := 1) (T := TX1) (n := 5) (cn := RX1) (ty0 := tyX1) C hd hk.1 hk.2 rfl rfl (by decide) iw_X1 tyX1_ok nmX1 hl rfl rfl rfl hq k
theorem g_X1_friend (C : Cx w x cc nL own rt rm) (hk : Rs w kk) (hd : decode cc pc = .ok (.getfield idx, 3)) (hl : Cond.fieldLink own idx "SundayVisits$Resident" "friend" "I" ∈ wg_ok) (hq : pc + 3 = q) (k : V w x nL μ q lv (.int (μ.1 kk 2) :: st)) : V w x nL μ pc lv (.ref (w_ad w kk) :: st) := v_geti (i := 2) (T := TX1) (n := 5) (cn := RX1) C hd hk.1 hk.2 rfl rfl (by decide) iw_X1 hl hq k
theorem p_X1_friend (C : Cx w x cc nL own rt rm) {v : Int32} (hk : Rs w kk) (hd : decode cc pc = .ok (.putfield idx, 3)) (hl : Cond.fieldLink own idx "SundayVisits$Resident" "friend" "I" ∈ wg_ok) (hq : pc + 3 = q) (k : V w x nL (up μ kk 2 v) q lv st) : V w x nL μ pc lv (.int v :: .ref (w_ad w kk) :: st) := v_puti (i := 2) (T := TX1) (n := 5) (cn := RX1) (ty0 := tyX1) C hd hk.1 hk.2 rfl rfl (by decide) iw_X1 tyX1_ok nmX1 hl rfl rfl rfl hq k
theorem g_X1_waits (C : Cx w x cc nL own rt rm) (hk : Rs w kk) (hd : decode cc pc = .ok (.getfield idx, 3)) (hl : Cond.fieldLink own idx "SundayVisits$Resident" "waits" "I" ∈ wg_ok) (hq : pc + 3 = q) (k : V w x nL μ q lv (.int (μ.1 kk 3) :: st)) : V w x nL μ pc lv (.ref (w_ad w kk) :: st) := v_geti (i := 3) (T := TX1) (n := 5) (cn := RX1) C hd hk.1 hk.2 rfl rfl (by decide) iw_X1 hl hq k
theorem p_X1_waits (C : Cx w x cc nL own rt rm) {v : Int32} (hk : Rs w kk) (hd : decode cc pc = .ok (.putfield idx, 3)) (hl : Cond.fieldLink own idx "SundayVisits$Resident" "waits" "I" ∈ wg_ok) (hq : pc + 3 = q) (k : V w x nL (up μ kk 3 v) q lv st) : V w x nL μ pc lv (.int v :: .ref (w_ad w kk) :: st) := v_puti (i := 3) (T := TX1) (n := 5) (cn := RX1) (ty0 := tyX1) C hd hk.1 hk.2 rfl rfl (by decide) iw_X1 tyX1_ok nmX1 hl rfl rfl rfl hq k
theorem g_X1_came (C : Cx w x cc nL own rt rm) (hk : Rs w kk) (hd : decode cc pc = .ok (.getfield idx, 3)) (hl : Cond.fieldLink own idx "SundayVisits$Resident" "came" "I" ∈ wg_ok) (hq : pc + 3 = q) (k : V w x nL μ q lv (.int (μ.1 kk 4) :: st)) : V w x nL μ pc lv (.ref (w_ad w kk) :: st) := v_geti (i := 4) (T := TX1) (n := 5) (cn := RX1) C hd hk.1 hk.2 rfl rfl (by decide) iw_X1 hl hq k
theorem p_X1_came (C : Cx w x cc nL own rt rm) {v : Int32} (hk : Rs w kk) (hd : decode cc pc = .ok (.putfield idx, 3)) (hl : Cond.fieldLink own idx "SundayVisits$Resident" "came" "I" ∈ wg_ok) (hq : pc + 3 = q) (k : V w x nL (up μ kk 4 v) q lv st) : V w x nL μ pc lv (.int v :: .ref (w_ad w kk) :: st) := v_puti (i := 4) (T := TX1) (n := 5) (cn := RX1) (ty0 := tyX1) C hd hk.1 hk.2 rfl rfl (by decide) iw_X1 tyX1_ok nmX1 hl rfl rfl rfl hq k
theorem g_X2_bits (C : Cx w x cc nL own rt rm) (hk : ShO w kk) (hd : decode cc pc = .ok (.getfield idx, 3)) (hl : Cond.fieldLink own idx "SundayVisits$Sheet" "bits" "I" ∈ wg_ok) (hq : pc + 3 = q) (k : V w x nL μ q lv (.int (μ.1 kk 0) :: st)) : V w x nL μ pc lv (.ref (w_ad w kk) :: st) := v_geti (i := 0) (T := TX2) (n := 3) (cn := RX2) C hd hk.1 hk.2 rfl rfl (by decide) iw_X2 hl hq k
theorem p_X2_bits (C : Cx w x cc nL own rt rm) {v : Int32} (hk : ShO w kk) (hd : decode cc pc = .ok (.putfield idx, 3)) (hl : Cond.fieldLink own idx "SundayVisits$Sheet" "bits" "I" ∈ wg_ok) (hq : pc + 3 = q) (k : V w x nL (up μ kk 0 v) q lv st) : V w x nL μ pc lv (.int v :: .ref (w_ad w kk) :: st) := v_puti (i := 0) (T := TX2) (n := 3) (cn := RX2) (ty0 := tyX2) C hd hk.1 hk.2 rfl rfl (by decide) iw_X2 tyX2_ok nmX2 hl rfl rfl rfl hq k
theorem g_X2_size (C : Cx w x cc nL own rt rm) (hk : ShO w kk) (hd : decode cc pc = .ok (.getfield idx, 3)) (hl : Cond.fieldLink own idx "SundayVisits$Sheet" "size" "I" ∈ wg_ok) (hq : pc + 3 = q) (k : V w x nL μ q lv (.int (μ.1 kk 1) :: st)) : V w x nL μ pc lv (.ref (w_ad w kk) :: st) := v_geti (i := 1) (T := TX2) (n := 3) (cn := RX2) C hd hk.1 hk.2 rfl rfl (by decide) iw_X2 hl hq k
theorem p_X2_size (C : Cx w x cc nL own rt rm) {v : Int32} (hk : ShO w kk) (hd : decode cc pc = .ok (.putfield idx, 3)) (hl : Cond.fieldLink own idx "SundayVisits$Sheet" "size" "I" ∈ wg_ok) (hq : pc + 3 = q) (k : V w x nL (up μ kk 1 v) q lv st) : V w x nL μ pc lv (.int v :: .ref (w_ad w kk) :: st) := v_puti (i := 1) (T := TX2) (n := 3) (cn := RX2) (ty0 := tyX2) C hd hk.1 hk.2 rfl rfl (by decide) iw_X2 tyX2_ok nmX2 hl rfl rfl rfl hq k
theorem g_X2_numbers (C : Cx w x cc nL own rt rm) (hk : ShO w kk) (hd : decode cc pc = .ok (.getfield idx, 3)) (hl : Cond.fieldLink own idx "SundayVisits$Sheet" "numbers" "[I" ∈ wg_ok) (hq : pc + 3 = q) (k : V w x nL μ q lv (.ref (w_ad w (kk + 4)) :: st)) : V w x nL μ pc lv (.ref (w_ad w kk) :: st) := v_getr (i := 2) (T := TX2) (n := 3) (cn := RX2) C hd hk.1 hk.2 rfl rfl (by decide) iw_X2 hl hq k
theorem g_X3_bytes (C : Cx w x cc nL own rt rm) (hk : TpO w kk) (hd : decode cc pc = .ok (.getfield idx, 3)) (hl : Cond.fieldLink own idx "SundayVisits$Tape" "bytes" "[I" ∈ wg_ok) (hq : pc + 3 = q) (k : V w x nL μ q lv (.ref (w_ad w (kk + 1)) :: st)) : V w x nL μ pc lv (.ref (w_ad w kk) :: st) := v_getr (i := 0) (T := TX3) (n := 6) (cn := RX3) C hd hk.1 hk.2 rfl rfl (by decide) iw_X3 hl hq k
theorem g_X3_length (C : Cx w x cc nL own rt rm) (hk : TpO w kk) (hd : decode cc pc = .ok (.getfield idx, 3)) (hl : Cond.fieldLink own idx "SundayVisits$Tape" "length" "I" ∈ wg_ok) (hq : pc + 3 = q) (k : V w x nL μ q lv (.int (μ.1 kk 1) :: st)) : V w x nL μ pc lv (.ref (w_ad w kk) :: st) := v_geti (i := 1) (T := TX3) (n := 6) (cn := RX3) C hd hk.1 hk.2 rfl rfl (by decide) iw_X3 hl hq k
theorem p_X3_length (C : Cx w x cc nL own rt rm) {v : Int32} (hk : TpO w kk) (hd : decode cc pc = .ok (.putfield idx, 3)) (hl : Cond.fieldLink own idx "SundayVisits$Tape" "length" "I" ∈ wg_ok) (hq : pc + 3 = q) (k : V w x nL (up μ kk 1 v) q lv st) : V w x nL μ pc lv (.int v :: .ref (w_ad w kk) :: st) := v_puti (i := 1) (T := TX3) (n := 6) (cn := RX3) (ty0 := tyX3) C hd hk.1 hk.2 rfl rfl (by decide) iw_X3 tyX3_ok nmX3 hl rfl rfl rfl hq k
theorem g_X3_token (C : Cx w x cc nL own rt rm) (hk : TpO w kk) (hd : decode cc pc = .ok (.getfield idx, 3)) (hl : Cond.fieldLink own idx "SundayVisits$Tape" "token" "I" ∈ wg_ok) (hq : pc + 3 = q) (k : V w x nL μ q lv (.int (μ.1 kk 2) :: st)) : V w x nL μ pc lv (.ref (w_ad w kk) :: st) := v_geti (i := 2) (T := TX3) (n := 6) (cn := RX3) C hd hk.1 hk.2 rfl rfl (by decide) iw_X3 hl hq k
theorem p_X3_token (C : Cx w x cc nL own rt rm) {v : Int32} (hk : TpO w kk) (hd : decode cc pc = .ok (.putfield idx, 3)) (hl : Cond.fieldLink own idx "SundayVisits$Tape" "token" "I" ∈ wg_ok) (hq : pc + 3 = q) (k : V w x nL (up μ kk 2 v) q lv st) : V w x nL μ pc lv (.int v :: .ref (w_ad w kk) :: st) := v_puti (i := 2) (T := TX3) (n := 6) (cn := RX3) (ty0 := tyX3) C hd hk.1 hk.2 rfl rfl (by decide) iw_X3 tyX3_ok nmX3 hl rfl rfl rfl hq k
theorem g_X3_begin (C : Cx w x cc nL own rt rm) (hk : TpO w kk) (hd : decode cc pc = .ok (.getfield idx, 3)) (hl : Cond.fieldLink own idx "SundayVisits$Tape" "begin" "I" ∈ wg_ok) (hq : pc + 3 = q) (k : V w x nL μ q lv (.int (μ.1 kk 3) :: st)) : V w x nL μ pc lv (.ref (w_ad w kk) :: st) := v_geti (i := 3) (T := TX3) (n := 6) (cn := RX3) C hd hk.1 hk.2 rfl rfl (by decide) iw_X3 hl hq k
theorem p_X3_begin (C : Cx w x cc nL own rt rm) {v : Int32} (hk : TpO w kk) (hd : decode cc pc = .ok (.putfield idx, 3)) (hl : Cond.fieldLink own idx "SundayVisits$Tape" "begin" "I" ∈ wg_ok) (hq : pc + 3 = q) (k : V w x nL (up μ kk 3 v) q lv st) : V w x nL μ pc lv (.int v :: .ref (w_ad w kk) :: st) := v_puti (i := 3) (T := TX3) (n := 6) (cn := RX3) (ty0 := tyX3) C hd hk.1 hk.2 rfl rfl (by decide) iw_X3 tyX3_ok nmX3 hl rfl rfl rfl hq k
theorem g_X3_end (C : Cx w x cc nL own rt rm) (hk : TpO w kk) (hd : decode cc pc = .ok (.getfield idx, 3)) (hl : Cond.fieldLink own idx "SundayVisits$Tape" "end" "I" ∈ wg_ok) (hq : pc + 3 = q) (k : V w x nL μ q lv (.int (μ.1 kk 4) :: st)) : V w x nL μ pc lv (.ref (w_ad w kk) :: st) := v_geti (i := 4) (T := TX3) (n := 6) (cn := RX3) C hd hk.1 hk.2 rfl rfl (by decide) iw_X3 hl hq k
theorem p_X3_end (C : Cx w x cc nL own rt rm) {v : Int32} (hk : TpO w kk) (hd : decode cc pc = .ok (.putfield idx, 3)) (hl : Cond.fieldLink own idx "SundayVisits$Tape" "end" "I" ∈ wg_ok) (hq : pc + 3 = q) (k : V w x nL (up μ kk 4 v) q lv st) : V w x nL μ pc lv (.int v :: .ref (w_ad w kk) :: st) := v_puti (i := 4) (T := TX3) (n := 6) (cn := RX3) (ty0 := tyX3) C hd hk.1 hk.2 rfl rfl (by decide) iw_X3 tyX3_ok nmX3 hl rfl rfl rfl hq k
theorem g_X3_value (C : Cx w x cc nL own rt rm) (hk : TpO w kk) (hd : decode cc pc = .ok (.getfield idx, 3)) (hl : Cond.fieldLink own idx "SundayVisits$Tape" "value" "I" ∈ wg_ok) (hq : pc + 3 = q) (k : V w x nL μ q lv (.int (μ.1 kk 5) :: st)) : V w x nL μ pc lv (.ref (w_ad w kk) :: st) := v_geti (i := 5) (T := TX3) (n := 6) (cn := RX3) C hd hk.1 hk.2 rfl rfl (by decide) iw_X3 hl hq k
theorem p_X3_value (C : Cx w x cc nL own rt rm) {v : Int32} (hk : TpO w kk) (hd : decode cc pc = .ok (.putfield idx, 3)) (hl : Cond.fieldLink own idx "SundayVisits$Tape" "value" "I" ∈ wg_ok) (hq : pc + 3 = q) (k : V w x nL (up μ kk 5 v) q lv st) : V w x nL μ pc lv (.int v :: .ref (w_ad w kk) :: st) := v_puti (i := 5) (T := TX3) (n := 6) (cn := RX3) (ty0 := tyX3) C hd hk.1 hk.2 rfl rfl (by decide) iw_X3 tyX3_ok nmX3 hl rfl rfl rfl hq k
theorem g_X4_live (C : Cx w x cc nL own rt rm) (hk : SvO w kk) (hd : decode cc pc = .ok (.getfield idx, 3)) (hl : Cond.fieldLink own idx "SundayVisits" "live" "LSundayVisits$Home;" ∈ wg_ok) (hq : pc + 3 = q) (k : V w x nL μ q lv (.ref (w_ad w (kk + 1)) :: st)) : V w x nL μ pc lv (.ref (w_ad w kk) :: st) := v_getr (i := 0) (T := TX4) (n := 7) (cn := RX4) C hd hk.1 hk.2 rfl rfl (by decide) iw_X4 hl hq k
theorem g_X4_trial (C : Cx w x cc nL own rt rm) (hk : SvO w kk) (hd : decode cc pc = .ok (.getfield idx, 3)) (hl : Cond.fieldLink own idx "SundayVisits" "trial" "LSundayVisits$Home;" ∈ wg_ok) (hq : pc + 3 = q) (k : V w x nL μ q lv (.ref (w_ad w (kk + 14)) :: st)) : V w x nL μ pc lv (.ref (w_ad w kk) :: st) := v_getr (i := 1) (T := TX4) (n := 7) (cn := RX4) C hd hk.1 hk.2 rfl rfl (by decide) iw_X4 hl hq k
theorem g_X4_kept (C : Cx w x cc nL own rt rm) (hk : SvO w kk) (hd : decode cc pc = .ok (.getfield idx, 3)) (hl : Cond.fieldLink own idx "SundayVisits" "kept" "LSundayVisits$Home;" ∈ wg_ok) (hq : pc + 3 = q) (k : V w x nL μ q lv (.ref (w_ad w (kk + 27)) :: st)) : V w x nL μ pc lv (.ref (w_ad w kk) :: st) := v_getr (i := 2) (T := TX4) (n := 7) (cn := RX4) C hd hk.1 hk.2 rfl rfl (by decide) iw_X4 hl hq k
theorem g_X4_keeps (C : Cx w x cc nL own rt rm) (hk : SvO w kk) (hd : decode cc pc = .ok (.getfield idx, 3)) (hl : Cond.fieldLink own idx "SundayVisits" "keeps" "Z" ∈ wg_ok) (hq : pc + 3 = q) (k : V w x nL μ q lv (.int (μ.1 kk 3) :: st)) : V w x nL μ pc lv (.ref (w_ad w kk) :: st) := v_geti (i := 3) (T := TX4) (n := 7) (cn := RX4) C hd hk.1 hk.2 rfl rfl (by decide) iw_X4 hl hq k
theorem p_X4_keeps (C : Cx w x cc nL own rt rm) {v : Int32} (hk : SvO w kk) (hd : decode cc pc = .ok (.putfield idx, 3)) (hl : Cond.fieldLink own idx "SundayVisits" "keeps" "Z" ∈ wg_ok) (hn : narrow .boolean (.int v) = .int v) (hfit : fits .boolean (.int v) = true) (hq : pc + 3 = q) (k : V w x nL (up μ kk 3 v) q lv st) : V w x nL μ pc lv (.int v :: .ref (w_ad w kk) :: st) := v_puti (i := 3) (T := TX4) (n := 7) (cn := RX4) (ty0 := tyX4) C hd hk.1 hk.2 rfl rfl (by decide) iw_X4 tyX4_ok nmX4 hl rfl hn hfit hq k
theorem g_X4_tape (C : Cx w x cc nL own rt rm) (hk : SvO w kk) (hd : decode cc pc = .ok (.getfield idx, 3)) (hl : Cond.fieldLink own idx "SundayVisits" "tape" "LSundayVisits$Tape;" ∈ wg_ok) (hq : pc + 3 = q) (k : V w x nL μ q lv (.ref (w_ad w (kk + 40)) :: st)) : V w x nL μ pc lv (.ref (w_ad w kk) :: st) := v_getr (i := 4) (T := TX4) (n := 7) (cn := RX4) C hd hk.1 hk.2 rfl rfl (by decide) iw_X4 hl hq k
theorem g_X4_sheets (C : Cx w x cc nL own rt rm) (hk : SvO w kk) (hd : decode cc pc = .ok (.getfield idx, 3)) (hl : Cond.fieldLink own idx "SundayVisits" "sheets" "[LSundayVisits$Sheet;" ∈ wg_ok) (hq : pc + 3 = q) (k : V w x nL μ q lv (.ref (w_ad w (kk + 42)) :: st)) : V w x nL μ pc lv (.ref (w_ad w kk) :: st) := v_getr (i := 5) (T := TX4) (n := 7) (cn := RX4) C hd hk.1 hk.2 rfl rfl (by decide) iw_X4 hl hq k
theorem g_X4_found (C : Cx w x cc nL own rt rm) (hk : SvO w kk) (hd : decode cc pc = .ok (.getfield idx, 3)) (hl : Cond.fieldLink own idx "SundayVisits" "found" "[I" ∈ wg_ok) (hq : pc + 3 = q) (k : V w x nL μ q lv (.ref (w_ad w (kk + 51)) :: st)) : V w x nL μ pc lv (.ref (w_ad w kk) :: st) := v_getr (i := 6) (T := TX4) (n := 7) (cn := RX4) C hd hk.1 hk.2 rfl rfl (by decide) iw_X4 hl hq k
theorem g_X5_d (C : Cx w x cc nL own rt rm) (hk : MdO w kk) (hd : decode cc pc = .ok (.getfield idx, 3)) (hl : Cond.fieldLink own idx "SundayVisitsModel" "d" "[I" ∈ wg_ok) (hq : pc + 3 = q) (k : V w x nL μ q lv (.ref (w_ad w (kk + 1)) :: st)) : V w x nL μ pc lv (.ref (w_ad w kk) :: st) := v_getr (i := 0) (T := TX5) (n := 17) (cn := RX5) C hd hk.1 hk.2 rfl rfl (by decide) iw_X5 hl hq k
theorem g_X5_e (C : Cx w x cc nL own rt rm) (hk : MdO w kk) (hd : decode cc pc = .ok (.getfield idx, 3)) (hl : Cond.fieldLink own idx "SundayVisitsModel" "e" "[I" ∈ wg_ok) (hq : pc + 3 = q) (k : V w x nL μ q lv (.ref (w_ad w (kk + 2)) :: st)) : V w x nL μ pc lv (.ref (w_ad w kk) :: st) := v_getr (i := 1) (T := TX5) (n := 17) (cn := RX5) C hd hk.1 hk.2 rfl rfl (by decide) iw_X5 hl hq k
theorem g_X5_aside (C : Cx w x cc nL own rt rm) (hk : MdO w kk) (hd : decode cc pc = .ok (.getfield idx, 3)) (hl : Cond.fieldLink own idx "SundayVisitsModel" "aside" "[I" ∈ wg_ok) (hq : pc + 3 = q) (k : V w x nL μ q lv (.ref (w_ad w (kk + 3)) :: st)) : V w x nL μ pc lv (.ref (w_ad w kk) :: st) := v_getr (i := 2) (T := TX5) (n := 17) (cn := RX5) C hd hk.1 hk.2 rfl rfl (by decide) iw_X5 hl hq k
theorem g_X5_kept (C : Cx w x cc nL own rt rm) (hk : MdO w kk) (hd : decode cc pc = .ok (.getfield idx, 3)) (hl : Cond.fieldLink own idx "SundayVisitsModel" "kept" "[I" ∈ wg_ok) (hq : pc + 3 = q) (k : V w x nL μ q lv (.ref (w_ad w (kk + 4)) :: st)) : V w x nL μ pc lv (.ref (w_ad w kk) :: st) := v_getr (i := 3) (T := TX5) (n := 17) (cn := RX5) C hd hk.1 hk.2 rfl rfl (by decide) iw_X5 hl hq k
theorem g_X5_isKept (C : Cx w x cc nL own rt rm) (hk : MdO w kk) (hd : decode cc pc = .ok (.getfield idx, 3)) (hl : Cond.fieldLink own idx "SundayVisitsModel" "isKept" "Z" ∈ wg_ok) (hq : pc + 3 = q) (k : V w x nL μ q lv (.int (μ.1 kk 4) :: st)) : V w x nL μ pc lv (.ref (w_ad w kk) :: st) := v_geti (i := 4) (T := TX5) (n := 17) (cn := RX5) C hd hk.1 hk.2 rfl rfl (by decide) iw_X5 hl hq k
theorem p_X5_isKept (C : Cx w x cc nL own rt rm) {v : Int32} (hk : MdO w kk) (hd : decode cc pc = .ok (.putfield idx, 3)) (hl : Cond.fieldLink own idx "SundayVisitsModel" "isKept" "Z" ∈ wg_ok) (hn : narrow .boolean (.int v) = .int v) (hfit : fits .boolean (.int v) = true) (hq : pc + 3 = q) (k : V w x nL (up μ kk 4 v) q lv st) : V w x nL μ pc lv (.int v :: .ref (w_ad w kk) :: st) := v_puti (i := 4) (T := TX5) (n := 17) (cn := RX5) (ty0 := tyX5) C hd hk.1 hk.2 rfl rfl (by decide) iw_X5 tyX5_ok nmX5 hl rfl hn hfit hq k
theorem g_X5_found (C : Cx w x cc nL own rt rm) (hk : MdO w kk) (hd : decode cc pc = .ok (.getfield idx, 3)) (hl : Cond.fieldLink own idx "SundayVisitsModel" "found" "[I" ∈ wg_ok) (hq : pc + 3 = q) (k : V w x nL μ q lv (.ref (w_ad w (kk + 5)) :: st)) : V w x nL μ pc lv (.ref (w_ad w kk) :: st) := v_getr (i := 5) (T := TX5) (n := 17) (cn := RX5) C hd hk.1 hk.2 rfl rfl (by decide) iw_X5 hl hq k
theorem g_X5_tape (C : Cx w x cc nL own rt rm) (hk : MdO w kk) (hd : decode cc pc = .ok (.getfield idx, 3)) (hl : Cond.fieldLink own idx "SundayVisitsModel" "tape" "[B" ∈ wg_ok) (hq : pc + 3 = q) (k : V w x nL μ q lv (.ref (w_ad w (kk + 6)) :: st)) : V w x nL μ pc lv (.ref (w_ad w kk) :: st) := v_getr (i := 6) (T := TX5) (n := 17) (cn := RX5) C hd hk.1 hk.2 rfl rfl (by decide) iw_X5 hl hq k
theorem g_X5_taped (C : Cx w x cc nL own rt rm) (hk : MdO w kk) (hd : decode cc pc = .ok (.getfield idx, 3)) (hl : Cond.fieldLink own idx "SundayVisitsModel" "taped" "I" ∈ wg_ok) (hq : pc + 3 = q) (k : V w x nL μ q lv (.int (μ.1 kk 7) :: st)) : V w x nL μ pc lv (.ref (w_ad w kk) :: st) := v_geti (i := 7) (T := TX5) (n := 17) (cn := RX5) C hd hk.1 hk.2 rfl rfl (by decide) iw_X5 hl hq k
theorem p_X5_taped (C : Cx w x cc nL own rt rm) {v : Int32} (hk : MdO w kk) (hd : decode cc pc = .ok (.putfield idx, 3)) (hl : Cond.fieldLink own idx "SundayVisitsModel" "taped" "I" ∈ wg_ok) (hq : pc + 3 = q) (k : V w x nL (up μ kk 7 v) q lv st) : V w x nL μ pc lv (.int v :: .ref (w_ad w kk) :: st) := v_puti (i := 7) (T := TX5) (n := 17) (cn := RX5) (ty0 := tyX5) C hd hk.1 hk.2 rfl rfl (by decide) iw_X5 tyX5_ok nmX5 hl rfl rfl rfl hq k
theorem g_X5_at (C : Cx w x cc nL own rt rm) (hk : MdO w kk) (hd : decode cc pc = .ok (.getfield idx, 3)) (hl : Cond.fieldLink own idx "SundayVisitsModel" "at" "I" ∈ wg_ok) (hq : pc + 3 = q) (k : V w x nL μ q lv (.int (μ.1 kk 8) :: st)) : V w x nL μ pc lv (.ref (w_ad w kk) :: st) := v_geti (i := 8) (T := TX5) (n := 17) (cn := RX5) C hd hk.1 hk.2 rfl rfl (by decide) iw_X5 hl hq k
theorem p_X5_at (C : Cx w x cc nL own rt rm) {v : Int32} (hk : MdO w kk) (hd : decode cc pc = .ok (.putfield idx, 3)) (hl : Cond.fieldLink own idx "SundayVisitsModel" "at" "I" ∈ wg_ok) (hq : pc + 3 = q) (k : V w x nL (up μ kk 8 v) q lv st) : V w x nL μ pc lv (.int v :: .ref (w_ad w kk) :: st) := v_puti (i := 8) (T := TX5) (n := 17) (cn := RX5) (ty0 := tyX5) C hd hk.1 hk.2 rfl rfl (by decide) iw_X5 tyX5_ok nmX5 hl rfl rfl rfl hq k
theorem g_X5_sort (C : Cx w x cc nL own rt rm) (hk : MdO w kk) (hd : decode cc pc = .ok (.getfield idx, 3)) (hl : Cond.fieldLink own idx "SundayVisitsModel" "sort" "I" ∈ wg_ok) (hq : pc + 3 = q) (k : V w x nL μ q lv (.int (μ.1 kk 9) :: st)) : V w x nL μ pc lv (.ref (w_ad w kk) :: st) := v_geti (i := 9) (T := TX5) (n := 17) (cn := RX5) C hd hk.1 hk.2 rfl rfl (by decide) iw_X5 hl hq k
theorem p_X5_sort (C : Cx w x cc nL own rt rm) {v : Int32} (hk : MdO w kk) (hd : decode cc pc = .ok (.putfield idx, 3)) (hl : Cond.fieldLink own idx "SundayVisitsModel" "sort" "I" ∈ wg_ok) (hq : pc + 3 = q) (k : V w x nL (up μ kk 9 v) q lv st) : V w x nL μ pc lv (.int v :: .ref (w_ad w kk) :: st) := v_puti (i := 9) (T := TX5) (n := 17) (cn := RX5) (ty0 := tyX5) C hd hk.1 hk.2 rfl rfl (by decide) iw_X5 tyX5_ok nmX5 hl rfl rfl rfl hq k
theorem g_X5_from (C : Cx w x cc nL own rt rm) (hk : MdO w kk) (hd : decode cc pc = .ok (.getfield idx, 3)) (hl : Cond.fieldLink own idx "SundayVisitsModel" "from" "I" ∈ wg_ok) (hq : pc + 3 = q) (k : V w x nL μ q lv (.int (μ.1 kk 10) :: st)) : V w x nL μ pc lv (.ref (w_ad w kk) :: st) := v_geti (i := 10) (T := TX5) (n := 17) (cn := RX5) C hd hk.1 hk.2 rfl rfl (by decide) iw_X5 hl hq k
theorem p_X5_from (C : Cx w x cc nL own rt rm) {v : Int32} (hk : MdO w kk) (hd : decode cc pc = .ok (.putfield idx, 3)) (hl : Cond.fieldLink own idx "SundayVisitsModel" "from" "I" ∈ wg_ok) (hq : pc + 3 = q) (k : V w x nL (up μ kk 10 v) q lv st) : V w x nL μ pc lv (.int v :: .ref (w_ad w kk) :: st) := v_puti (i := 10) (T := TX5) (n := 17) (cn := RX5) (ty0 := tyX5) C hd hk.1 hk.2 rfl rfl (by decide) iw_X5 tyX5_ok nmX5 hl rfl rfl rfl hq k
theorem g_X5_value (C : Cx w x cc nL own rt rm) (hk : MdO w kk) (hd : decode cc pc = .ok (.getfield idx, 3)) (hl : Cond.fieldLink own idx "SundayVisitsModel" "value" "J" ∈ wg_ok) (hq : pc + 3 = q) (k : V w x nL μ q lv (.long μ.2 :: st)) : V w x nL μ pc lv (.ref (w_ad w kk) :: st) := v_getl (i := 11) (T := TX5) (n := 17) (cn := RX5) C hd hk.1 hk.2 rfl rfl (by decide) iw_X5 hl hq k
theorem p_X5_value (C : Cx w x cc nL own rt rm) {v : Int64} (hk : MdO w kk) (ho : ∀ j, j < w_N w → j ≠ kk → noL (w_sh w j) = true) (hd : decode cc pc = .ok (.putfield idx, 3)) (hl : Cond.fieldLink own idx "SundayVisitsModel" "value" "J" ∈ wg_ok) (hq : pc + 3 = q) (k : V w x nL (ul μ v) q lv st) : V w x nL μ pc lv (.long v :: .ref (w_ad w kk) :: st) := v_putl (i := 11) (T := TX5) (n := 17) (cn := RX5) (ty0 := tyX5) C hd hk.1 hk.2 rfl (fun j hj hn => by match j, hj, hn with | 0, _, _ => (intro h; cases h) | 1, _, _ => (intro h; cases h) | 2, _, _ => (intro h; cases h) | 3, _, _ => (intro h; cases h) | 4, _, _ => (intro h; cases h) | 5, _, _ => (intro h; cases h) | 6, _, _ => (intro h; cases h) | 7, _, _ => (intro h; cases h) | 8, _, _ => (intro h; cases h) | 9, _, _ => (intro h; cases h) | 10, _, _ => (intro h; cases h) | 11, _, hn => exact absurd rfl hn | 12, _, _ => (intro h; cases h) | 13, _, _ => (intro h; cases h) | 14, _, _ => (intro h; cases h) | 15, _, _ => (intro h; cases h) | 16, _, _ => (intro h; cases h) | n + 17, hj, _ => (exfalso; simp at hj; omega)) ho rfl (by decide) iw_X5 tyX5_ok nmX5 hl rfl rfl rfl hq k
theorem g_X5_fault (C : Cx w x cc nL own rt rm) (hk : MdO w kk) (hd : decode cc pc = .ok (.getfield idx, 3)) (hl : Cond.fieldLink own idx "SundayVisitsModel" "fault" "I" ∈ wg_ok) (hq : pc + 3 = q) (k : V w x nL μ q lv (.int (μ.1 kk 12) :: st)) : V w x nL μ pc lv (.ref (w_ad w kk) :: st) := v_geti (i := 12) (T := TX5) (n := 17) (cn := RX5) C hd hk.1 hk.2 rfl rfl (by decide) iw_X5 hl hq k
theorem p_X5_fault (C : Cx w x cc nL own rt rm) {v : Int32} (hk : MdO w kk) (hd : decode cc pc = .ok (.putfield idx, 3)) (hl : Cond.fieldLink own idx "SundayVisitsModel" "fault" "I" ∈ wg_ok) (hq : pc + 3 = q) (k : V w x nL (up μ kk 12 v) q lv st) : V w x nL μ pc lv (.int v :: .ref (w_ad w kk) :: st) := v_puti (i := 12) (T := TX5) (n := 17) (cn := RX5) (ty0 := tyX5) C hd hk.1 hk.2 rfl rfl (by decide) iw_X5 tyX5_ok nmX5 hl rfl rfl rfl hq k
theorem g_X5_bitsOf (C : Cx w x cc nL own rt rm) (hk : MdO w kk) (hd : decode cc pc = .ok (.getfield idx, 3)) (hl : Cond.fieldLink own idx "SundayVisitsModel" "bitsOf" "[I" ∈ wg_ok) (hq : pc + 3 = q) (k : V w x nL μ q lv (.ref (w_ad w (kk + 7)) :: st)) : V w x nL μ pc lv (.ref (w_ad w kk) :: st) := v_getr (i := 13) (T := TX5) (n := 17) (cn := RX5) C hd hk.1 hk.2 rfl rfl (by decide) iw_X5 hl hq k
theorem g_X5_sizeOf (C : Cx w x cc nL own rt rm) (hk : MdO w kk) (hd : decode cc pc = .ok (.getfield idx, 3)) (hl : Cond.fieldLink own idx "SundayVisitsModel" "sizeOf" "[I" ∈ wg_ok) (hq : pc + 3 = q) (k : V w x nL μ q lv (.ref (w_ad w (kk + 8)) :: st)) : V w x nL μ pc lv (.ref (w_ad w kk) :: st) := v_getr (i := 14) (T := TX5) (n := 17) (cn := RX5) C hd hk.1 hk.2 rfl rfl (by decide) iw_X5 hl hq k
theorem g_X5_number (C : Cx w x cc nL own rt rm) (hk : MdO w kk) (hd : decode cc pc = .ok (.getfield idx, 3)) (hl : Cond.fieldLink own idx "SundayVisitsModel" "number" "[I" ∈ wg_ok) (hq : pc + 3 = q) (k : V w x nL μ q lv (.ref (w_ad w (kk + 9)) :: st)) : V w x nL μ pc lv (.ref (w_ad w kk) :: st) := v_getr (i := 15) (T := TX5) (n := 17) (cn := RX5) C hd hk.1 hk.2 rfl rfl (by decide) iw_X5 hl hq k
theorem g_X5_passing (C : Cx w x cc nL own rt rm) (hk : MdO w kk) (hd : decode cc pc = .ok (.getfield idx, 3)) (hl : Cond.fieldLink own idx "SundayVisitsModel" "passing" "[I" ∈ wg_ok) (hq : pc + 3 = q) (k : V w x nL μ q lv (.ref (w_ad w (kk + 10)) :: st)) : V w x nL μ pc lv (.ref (w_ad w kk) :: st) := v_getr (i := 16) (T := TX5) (n := 17) (cn := RX5) C hd hk.1 hk.2 rfl rfl (by decide) iw_X5 hl hq k
theorem a_I {n : Nat} (C : Cx w x cc nL own rt rm) {a : Int32} (hk : Ia w kk n) (hn : n < 2 ^ 31) (hd : decode cc pc = .ok (.iaload, 1)) (j : Nat) (ha : a = nI j) (hj : j < n) (hq : pc + 1 = q) (k : V w x nL μ q lv (.int (μ.1 kk j) :: st)) : V w x nL μ pc lv (.int a :: .ref (w_ad w kk) :: st) := v_iald C j hd hk.1 hk.2 ha hj hn hq k
theorem s_I {n : Nat} (C : Cx w x cc nL own rt rm) {a v : Int32} (hk : Ia w kk n) (hn : n < 2 ^ 31) (hd : decode cc pc = .ok (.iastore, 1)) (j : Nat) (ha : a = nI j) (hj : j < n) (hq : pc + 1 = q) (k : V w x nL (up μ kk j v) q lv st) : V w x nL μ pc lv (.int v :: .int a :: .ref (w_ad w kk) :: st) := v_iast C j hd hk.1 hk.2 ha hj hn hq k
theorem a_B {n : Nat} (C : Cx w x cc nL own rt rm) {a : Int32} (hk : Ba w kk n) (hn : n < 2 ^ 31) (hd : decode cc pc = .ok (.baload, 1)) (j : Nat) (ha : a = nI j) (hj : j < n) (hq : pc + 1 = q) (k : V w x nL μ q lv (.int (μ.1 kk j) :: st)) : V w x nL μ pc lv (.int a :: .ref (w_ad w kk) :: st) := v_bald C j hd hk.1 hk.2 ha hj hn hq k
theorem s_B {n : Nat} (C : Cx w x cc nL own rt rm) {a v : Int32} (hk : Ba w kk n) (hn : n < 2 ^ 31) (hd : decode cc pc = .ok (.bastore, 1)) (j : Nat) (ha : a = nI j) (hj : j < n) (hq : pc + 1 = q) (k : V w x nL (up μ kk j (vp_nar .byte v)) q lv st) : V w x nL μ pc lv (.int v :: .int a :: .ref (w_ad w kk) :: st) := v_bast C j hd hk.1 hk.2 ha hj hn hq k
theorem a_R (C : Cx w x cc nL own rt rm) {a : Int32} (hk : HmR w kk) (hd : decode cc pc = .ok (.aaload, 1)) (j : Nat) (ha : a = nI j) (hj : j < 8) (hq : pc + 1 = q) (k : V w x nL μ q lv (.ref (w_ad w (kk + 2 + j)) :: st)) : V w x nL μ pc lv (.int a :: .ref (w_ad w kk) :: st) := v_aald C j hd hk.1 hk.2 (cn := "SundayVisits$Resident") rfl ha hj (by decide) hq k
theorem a_S (C : Cx w x cc nL own rt rm) {a : Int32} (hk : SvS w kk) (hd : decode cc pc = .ok (.aaload, 1)) (j : Nat) (ha : a = nI j) (hj : j < 4) (hq : pc + 1 = q) (k : V w x nL μ q lv (.ref (w_ad w (kk + 1 + j)) :: st)) : V w x nL μ pc lv (.int a :: .ref (w_ad w kk) :: st) := v_aald C j hd hk.1 hk.2 (cn := "SundayVisits$Sheet") rfl ha hj (by decide) hq k
end FIELDS
theorem ic_m1 : Int32.ofInt (-1) = (-1 : Int32) := by decide +kernel
theorem ic_0 : Int32.ofInt (0) = (0 : Int32) := by decide +kernel
theorem ic_1 : Int32.ofInt (1) = (1 : Int32) := by decide +kernel
theorem ic_2 : Int32.ofInt (2) = (2 : Int32) := by decide +kernel
theorem ic_3 : Int32.ofInt (3) = (3 : Int32) := by decide +kernel
theorem ic_4 : Int32.ofInt (4) = (4 : Int32) := by decide +kernel
theorem ic_5 : Int32.ofInt (5) = (5 : Int32) := by decide +kernel
theorem bp_6 : (Int8.ofInt (6)).toInt32 = (6 : Int32) := by decide +kernel
theorem bp_7 : (Int8.ofInt (7)).toInt32 = (7 : Int32) := by decide +kernel
theorem bp_8 : (Int8.ofInt (8)).toInt32 = (8 : Int32) := by decide +kernel
theorem bp_9 : (Int8.ofInt (9)).toInt32 = (9 : Int32) := by decide +kernel
theorem bp_10 : (Int8.ofInt (10)).toInt32 = (10 : Int32) := by decide +kernel
theorem bp_11 : (Int8.ofInt (11)).toInt32 = (11 : Int32) := by decide +kernel
theorem bp_12 : (Int8.ofInt (12)).toInt32 = (12 : Int32) := by decide +kernel
theorem bp_13 : (Int8.ofInt (13)).toInt32 = (13 : Int32) := by decide +kernel
theorem bp_16 : (Int8.ofInt (16)).toInt32 = (16 : Int32) := by decide +kernel
theorem bp_20 : (Int8.ofInt (20)).toInt32 = (20 : Int32) := by decide +kernel
theorem bp_21 : (Int8.ofInt (21)).toInt32 = (21 : Int32) := by decide +kernel
theorem bp_32 : (Int8.ofInt (32)).toInt32 = (32 : Int32) := by decide +kernel
theorem bp_40 : (Int8.ofInt (40)).toInt32 = (40 : Int32) := by decide +kernel
theorem bp_45 : (Int8.ofInt (45)).toInt32 = (45 : Int32) := by decide +kernel
theorem bp_48 : (Int8.ofInt (48)).toInt32 = (48 : Int32) := by decide +kernel
theorem bp_50 : (Int8.ofInt (50)).toInt32 = (50 : Int32) := by decide +kernel
theorem bp_53 : (Int8.ofInt (53)).toInt32 = (53 : Int32) := by decide +kernel
theorem bp_57 : (Int8.ofInt (57)).toInt32 = (57 : Int32) := by decide +kernel
theorem bp_59 : (Int8.ofInt (59)).toInt32 = (59 : Int32) := by decide +kernel
theorem bp_60 : (Int8.ofInt (60)).toInt32 = (60 : Int32) := by decide +kernel
theorem bp_63 : (Int8.ofInt (63)).toInt32 = (63 : Int32) := by decide +kernel
theorem bp_70 : (Int8.ofInt (70)).toInt32 = (70 : Int32) := by decide +kernel
theorem bp_97 : (Int8.ofInt (97)).toInt32 = (97 : Int32) := by decide +kernel
theorem bp_99 : (Int8.ofInt (99)).toInt32 = (99 : Int32) := by decide +kernel
theorem bp_100 : (Int8.ofInt (100)).toInt32 = (100 : Int32) := by decide +kernel
theorem bp_120 : (Int8.ofInt (120)).toInt32 = (120 : Int32) := by decide +kernel
theorem bp_122 : (Int8.ofInt (122)).toInt32 = (122 : Int32) := by decide +kernel
theorem sp_160 : (Int16.ofInt (160)).toInt32 = (160 : Int32) := by decide +kernel
theorem sp_200 : (Int16.ofInt (200)).toInt32 = (200 : Int32) := by decide +kernel
theorem sp_255 : (Int16.ofInt (255)).toInt32 = (255 : Int32) := by decide +kernel
theorem sp_256 : (Int16.ofInt (256)).toInt32 = (256 : Int32) := by decide +kernel
theorem sp_9999 : (Int16.ofInt (9999)).toInt32 = (9999 : Int32) := by decide +kernel
theorem sp_10000 : (Int16.ofInt (10000)).toInt32 = (10000 : Int32) := by decide +kernel
theorem sp_12345 : (Int16.ofInt (12345)).toInt32 = (12345 : Int32) := by decide +kernel
end
