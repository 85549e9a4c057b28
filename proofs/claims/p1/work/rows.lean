section
/-- a private method of a class that the tables say can be made, by its rows of tables_1 -/
def lw_okq (q : MethodName × Nat) : Prop := (q.1.cls ≠ "java/lang/invoke/MethodHandle" ∧ q.1.cls ≠ "java/lang/invoke/VarHandle") ∧ Cond.instantiable q.1.cls q.2 ∈ tables_1 ∧ Cond.privateMethod q.1 ∈ tables_1 ∧ Cond.instanceMethod q.1 ∈ tables_1
theorem lw_p0 : lw_okq (⟨"BoilerBook$History", "dropOldest", "()V"⟩, 2) := ⟨⟨by decide +kernel, by decide +kernel⟩, List.mem_of_getElem? (i := 170) (by decide +kernel), List.mem_of_getElem? (i := 356) (by decide +kernel), List.mem_of_getElem? (i := 357) (by decide +kernel)⟩
theorem lw_p1 : lw_okq (⟨"BoilerBook", "countDoomed", "()I"⟩, 9) := ⟨⟨by decide +kernel, by decide +kernel⟩, List.mem_of_getElem? (i := 14) (by decide +kernel), List.mem_of_getElem? (i := 389) (by decide +kernel), List.mem_of_getElem? (i := 390) (by decide +kernel)⟩
theorem lw_p2 : lw_okq (⟨"BoilerBook", "forecastToEnd", "()V"⟩, 9) := ⟨⟨by decide +kernel, by decide +kernel⟩, List.mem_of_getElem? (i := 14) (by decide +kernel), List.mem_of_getElem? (i := 393) (by decide +kernel), List.mem_of_getElem? (i := 394) (by decide +kernel)⟩
theorem lw_p3 : lw_okq (⟨"BoilerBook$Course", "addRow", "(LBoilerBook$State;III)V"⟩, 17) := ⟨⟨by decide +kernel, by decide +kernel⟩, List.mem_of_getElem? (i := 221) (by decide +kernel), List.mem_of_getElem? (i := 414) (by decide +kernel), List.mem_of_getElem? (i := 415) (by decide +kernel)⟩
theorem lw_p4 : lw_okq (⟨"BoilerBook$Course", "passTick", "()V"⟩, 17) := ⟨⟨by decide +kernel, by decide +kernel⟩, List.mem_of_getElem? (i := 221) (by decide +kernel), List.mem_of_getElem? (i := 427) (by decide +kernel), List.mem_of_getElem? (i := 428) (by decide +kernel)⟩
theorem lw_p5 : lw_okq (⟨"BoilerBook$Course", "drawFor", "(I)V"⟩, 17) := ⟨⟨by decide +kernel, by decide +kernel⟩, List.mem_of_getElem? (i := 221) (by decide +kernel), List.mem_of_getElem? (i := 434) (by decide +kernel), List.mem_of_getElem? (i := 435) (by decide +kernel)⟩
theorem lw_p6 : lw_okq (⟨"BoilerBook", "errorOfBooking", "(III)I"⟩, 9) := ⟨⟨by decide +kernel, by decide +kernel⟩, List.mem_of_getElem? (i := 14) (by decide +kernel), List.mem_of_getElem? (i := 458) (by decide +kernel), List.mem_of_getElem? (i := 459) (by decide +kernel)⟩
theorem lw_p7 : lw_okq (⟨"BoilerBook$Judge", "forecastWithout", "(LBoilerBook$State;I)V"⟩, 4) := ⟨⟨by decide +kernel, by decide +kernel⟩, List.mem_of_getElem? (i := 293) (by decide +kernel), List.mem_of_getElem? (i := 474) (by decide +kernel), List.mem_of_getElem? (i := 475) (by decide +kernel)⟩
theorem lw_p8 : lw_okq (⟨"BoilerBook$Judge", "reasonNow", "(LBoilerBook$State;IIII)I"⟩, 4) := ⟨⟨by decide +kernel, by decide +kernel⟩, List.mem_of_getElem? (i := 293) (by decide +kernel), List.mem_of_getElem? (i := 480) (by decide +kernel), List.mem_of_getElem? (i := 481) (by decide +kernel)⟩
theorem lw_p9 : lw_okq (⟨"BoilerBook$Judge", "reasonByOthers", "(I)I"⟩, 4) := ⟨⟨by decide +kernel, by decide +kernel⟩, List.mem_of_getElem? (i := 293) (by decide +kernel), List.mem_of_getElem? (i := 502) (by decide +kernel), List.mem_of_getElem? (i := 503) (by decide +kernel)⟩
theorem lw_p10 : lw_okq (⟨"BoilerBook$Judge", "wasDoomed", "(I)Z"⟩, 4) := ⟨⟨by decide +kernel, by decide +kernel⟩, List.mem_of_getElem? (i := 293) (by decide +kernel), List.mem_of_getElem? (i := 506) (by decide +kernel), List.mem_of_getElem? (i := 507) (by decide +kernel)⟩
theorem lw_p11 : lw_okq (⟨"BoilerBook", "tryWishes", "()I"⟩, 9) := ⟨⟨by decide +kernel, by decide +kernel⟩, List.mem_of_getElem? (i := 14) (by decide +kernel), List.mem_of_getElem? (i := 523) (by decide +kernel), List.mem_of_getElem? (i := 524) (by decide +kernel)⟩
theorem lw_p12 : lw_okq (⟨"BoilerBook", "firstToRepair", "()I"⟩, 9) := ⟨⟨by decide +kernel, by decide +kernel⟩, List.mem_of_getElem? (i := 14) (by decide +kernel), List.mem_of_getElem? (i := 550) (by decide +kernel), List.mem_of_getElem? (i := 551) (by decide +kernel)⟩
theorem lw_p13 : lw_okq (⟨"BoilerBook", "wasRepaired", "(I)Z"⟩, 9) := ⟨⟨by decide +kernel, by decide +kernel⟩, List.mem_of_getElem? (i := 14) (by decide +kernel), List.mem_of_getElem? (i := 558) (by decide +kernel), List.mem_of_getElem? (i := 559) (by decide +kernel)⟩
theorem lw_p14 : lw_okq (⟨"BoilerBook", "moveLaterOrCancel", "(I)Z"⟩, 9) := ⟨⟨by decide +kernel, by decide +kernel⟩, List.mem_of_getElem? (i := 14) (by decide +kernel), List.mem_of_getElem? (i := 562) (by decide +kernel), List.mem_of_getElem? (i := 563) (by decide +kernel)⟩
theorem lw_p15 : lw_okq (⟨"BoilerBook", "takeOver", "(LBoilerBook$Course;)I"⟩, 9) := ⟨⟨by decide +kernel, by decide +kernel⟩, List.mem_of_getElem? (i := 14) (by decide +kernel), List.mem_of_getElem? (i := 586) (by decide +kernel), List.mem_of_getElem? (i := 587) (by decide +kernel)⟩
def lw_privs_1 : List (MethodName × Nat) := [(⟨"BoilerBook$History", "dropOldest", "()V"⟩, 2), (⟨"BoilerBook", "countDoomed", "()I"⟩, 9), (⟨"BoilerBook", "forecastToEnd", "()V"⟩, 9), (⟨"BoilerBook$Course", "addRow", "(LBoilerBook$State;III)V"⟩, 17), (⟨"BoilerBook$Course", "passTick", "()V"⟩, 17), (⟨"BoilerBook$Course", "drawFor", "(I)V"⟩, 17), (⟨"BoilerBook", "errorOfBooking", "(III)I"⟩, 9), (⟨"BoilerBook$Judge", "forecastWithout", "(LBoilerBook$State;I)V"⟩, 4), (⟨"BoilerBook$Judge", "reasonNow", "(LBoilerBook$State;IIII)I"⟩, 4), (⟨"BoilerBook$Judge", "reasonByOthers", "(I)I"⟩, 4), (⟨"BoilerBook$Judge", "wasDoomed", "(I)Z"⟩, 4), (⟨"BoilerBook", "tryWishes", "()I"⟩, 9), (⟨"BoilerBook", "firstToRepair", "()I"⟩, 9), (⟨"BoilerBook", "wasRepaired", "(I)Z"⟩, 9), (⟨"BoilerBook", "moveLaterOrCancel", "(I)Z"⟩, 9), (⟨"BoilerBook", "takeOver", "(LBoilerBook$Course;)I"⟩, 9)]
theorem lw_r1 : ∀ q ∈ lw_privs_1, lw_okq q := List.forall_mem_cons.mpr ⟨lw_p0, List.forall_mem_cons.mpr ⟨lw_p1, List.forall_mem_cons.mpr ⟨lw_p2, List.forall_mem_cons.mpr ⟨lw_p3, List.forall_mem_cons.mpr ⟨lw_p4, List.forall_mem_cons.mpr ⟨lw_p5, List.forall_mem_cons.mpr ⟨lw_p6, List.forall_mem_cons.mpr ⟨lw_p7, List.forall_mem_cons.mpr ⟨lw_p8, List.forall_mem_cons.mpr ⟨lw_p9, List.forall_mem_cons.mpr ⟨lw_p10, List.forall_mem_cons.mpr ⟨lw_p11, List.forall_mem_cons.mpr ⟨lw_p12, List.forall_mem_cons.mpr ⟨lw_p13, List.forall_mem_cons.mpr ⟨lw_p14, List.forall_mem_cons.mpr ⟨lw_p15, fun _ h => absurd h List.not_mem_nil⟩⟩⟩⟩⟩⟩⟩⟩⟩⟩⟩⟩⟩⟩⟩⟩
theorem lw_p16 : lw_okq (⟨"BoilerBook$Text", "readEntry", "(I)Z"⟩, 7) := ⟨⟨by decide +kernel, by decide +kernel⟩, List.mem_of_getElem? (i := 187) (by decide +kernel), List.mem_of_getElem? (i := 615) (by decide +kernel), List.mem_of_getElem? (i := 616) (by decide +kernel)⟩
theorem lw_p17 : lw_okq (⟨"BoilerBook$Text", "isDigit", "()Z"⟩, 7) := ⟨⟨by decide +kernel, by decide +kernel⟩, List.mem_of_getElem? (i := 187) (by decide +kernel), List.mem_of_getElem? (i := 619) (by decide +kernel), List.mem_of_getElem? (i := 620) (by decide +kernel)⟩
theorem lw_p18 : lw_okq (⟨"BoilerBook$Text", "current", "()C"⟩, 7) := ⟨⟨by decide +kernel, by decide +kernel⟩, List.mem_of_getElem? (i := 187) (by decide +kernel), List.mem_of_getElem? (i := 623) (by decide +kernel), List.mem_of_getElem? (i := 624) (by decide +kernel)⟩
theorem lw_p19 : lw_okq (⟨"BoilerBook$Text", "takeDigit", "()I"⟩, 7) := ⟨⟨by decide +kernel, by decide +kernel⟩, List.mem_of_getElem? (i := 187) (by decide +kernel), List.mem_of_getElem? (i := 627) (by decide +kernel), List.mem_of_getElem? (i := 628) (by decide +kernel)⟩
theorem lw_p20 : lw_okq (⟨"BoilerBook$Text", "skip", "(C)Z"⟩, 7) := ⟨⟨by decide +kernel, by decide +kernel⟩, List.mem_of_getElem? (i := 187) (by decide +kernel), List.mem_of_getElem? (i := 631) (by decide +kernel), List.mem_of_getElem? (i := 632) (by decide +kernel)⟩
theorem lw_p21 : lw_okq (⟨"BoilerBook$Text", "takeStart", "()I"⟩, 7) := ⟨⟨by decide +kernel, by decide +kernel⟩, List.mem_of_getElem? (i := 187) (by decide +kernel), List.mem_of_getElem? (i := 635) (by decide +kernel), List.mem_of_getElem? (i := 636) (by decide +kernel)⟩
theorem lw_p22 : lw_okq (⟨"BoilerBook", "stateInTheEnd", "(I)I"⟩, 9) := ⟨⟨by decide +kernel, by decide +kernel⟩, List.mem_of_getElem? (i := 14) (by decide +kernel), List.mem_of_getElem? (i := 686) (by decide +kernel), List.mem_of_getElem? (i := 687) (by decide +kernel)⟩
theorem lw_p23 : lw_okq (⟨"BoilerBook", "tickOfSpoiling", "(I)I"⟩, 9) := ⟨⟨by decide +kernel, by decide +kernel⟩, List.mem_of_getElem? (i := 14) (by decide +kernel), List.mem_of_getElem? (i := 691) (by decide +kernel), List.mem_of_getElem? (i := 692) (by decide +kernel)⟩
theorem lw_p24 : lw_okq (⟨"BoilerBook", "leastSpare", "(I)I"⟩, 9) := ⟨⟨by decide +kernel, by decide +kernel⟩, List.mem_of_getElem? (i := 14) (by decide +kernel), List.mem_of_getElem? (i := 695) (by decide +kernel), List.mem_of_getElem? (i := 696) (by decide +kernel)⟩
theorem lw_p25 : lw_okq (⟨"BoilerBookModel", "record", "()V"⟩, 24) := ⟨⟨by decide +kernel, by decide +kernel⟩, List.mem_of_getElem? (i := 727) (by decide +kernel), List.mem_of_getElem? (i := 813) (by decide +kernel), List.mem_of_getElem? (i := 814) (by decide +kernel)⟩
theorem lw_p26 : lw_okq (⟨"BoilerBookModel", "doomed", "()I"⟩, 24) := ⟨⟨by decide +kernel, by decide +kernel⟩, List.mem_of_getElem? (i := 727) (by decide +kernel), List.mem_of_getElem? (i := 821) (by decide +kernel), List.mem_of_getElem? (i := 822) (by decide +kernel)⟩
theorem lw_p27 : lw_okq (⟨"BoilerBookModel", "forecast", "()V"⟩, 24) := ⟨⟨by decide +kernel, by decide +kernel⟩, List.mem_of_getElem? (i := 727) (by decide +kernel), List.mem_of_getElem? (i := 825) (by decide +kernel), List.mem_of_getElem? (i := 826) (by decide +kernel)⟩
theorem lw_p28 : lw_okq (⟨"BoilerBookModel", "begins", "()V"⟩, 24) := ⟨⟨by decide +kernel, by decide +kernel⟩, List.mem_of_getElem? (i := 727) (by decide +kernel), List.mem_of_getElem? (i := 829) (by decide +kernel), List.mem_of_getElem? (i := 830) (by decide +kernel)⟩
theorem lw_p29 : lw_okq (⟨"BoilerBookModel", "of", "(II)I"⟩, 24) := ⟨⟨by decide +kernel, by decide +kernel⟩, List.mem_of_getElem? (i := 727) (by decide +kernel), List.mem_of_getElem? (i := 833) (by decide +kernel), List.mem_of_getElem? (i := 834) (by decide +kernel)⟩
theorem lw_p30 : lw_okq (⟨"BoilerBookModel", "foresees", "(I)V"⟩, 24) := ⟨⟨by decide +kernel, by decide +kernel⟩, List.mem_of_getElem? (i := 727) (by decide +kernel), List.mem_of_getElem? (i := 838) (by decide +kernel), List.mem_of_getElem? (i := 839) (by decide +kernel)⟩
theorem lw_p31 : lw_okq (⟨"BoilerBookModel", "asks", "(IIII)V"⟩, 24) := ⟨⟨by decide +kernel, by decide +kernel⟩, List.mem_of_getElem? (i := 727) (by decide +kernel), List.mem_of_getElem? (i := 842) (by decide +kernel), List.mem_of_getElem? (i := 843) (by decide +kernel)⟩
def lw_privs_2 : List (MethodName × Nat) := [(⟨"BoilerBook$Text", "readEntry", "(I)Z"⟩, 7), (⟨"BoilerBook$Text", "isDigit", "()Z"⟩, 7), (⟨"BoilerBook$Text", "current", "()C"⟩, 7), (⟨"BoilerBook$Text", "takeDigit", "()I"⟩, 7), (⟨"BoilerBook$Text", "skip", "(C)Z"⟩, 7), (⟨"BoilerBook$Text", "takeStart", "()I"⟩, 7), (⟨"BoilerBook", "stateInTheEnd", "(I)I"⟩, 9), (⟨"BoilerBook", "tickOfSpoiling", "(I)I"⟩, 9), (⟨"BoilerBook", "leastSpare", "(I)I"⟩, 9), (⟨"BoilerBookModel", "record", "()V"⟩, 24), (⟨"BoilerBookModel", "doomed", "()I"⟩, 24), (⟨"BoilerBookModel", "forecast", "()V"⟩, 24), (⟨"BoilerBookModel", "begins", "()V"⟩, 24), (⟨"BoilerBookModel", "of", "(II)I"⟩, 24), (⟨"BoilerBookModel", "foresees", "(I)V"⟩, 24), (⟨"BoilerBookModel", "asks", "(IIII)V"⟩, 24)]
theorem lw_r2 : ∀ q ∈ lw_privs_2, lw_okq q := List.forall_mem_cons.mpr ⟨lw_p16, List.forall_mem_cons.mpr ⟨lw_p17, List.forall_mem_cons.mpr ⟨lw_p18, List.forall_mem_cons.mpr ⟨lw_p19, List.forall_mem_cons.mpr ⟨lw_p20, List.forall_mem_cons.mpr ⟨lw_p21, List.forall_mem_cons.mpr ⟨lw_p22, List.forall_mem_cons.mpr ⟨lw_p23, List.forall_mem_cons.mpr ⟨lw_p24, List.forall_mem_cons.mpr ⟨lw_p25, List.forall_mem_cons.mpr ⟨lw_p26, List.forall_mem_cons.mpr ⟨lw_p27, List.forall_mem_cons.mpr ⟨lw_p28, List.forall_mem_cons.mpr ⟨lw_p29, List.forall_mem_cons.mpr ⟨lw_p30, List.forall_mem_cons.mpr ⟨lw_p31, fun _ h => absurd h List.not_mem_nil⟩⟩⟩⟩⟩⟩⟩⟩⟩⟩⟩⟩⟩⟩⟩⟩
theorem lw_p32 : lw_okq (⟨"BoilerBookModel", "ofRecipe", "(II)I"⟩, 24) := ⟨⟨by decide +kernel, by decide +kernel⟩, List.mem_of_getElem? (i := 727) (by decide +kernel), List.mem_of_getElem? (i := 846) (by decide +kernel), List.mem_of_getElem? (i := 847) (by decide +kernel)⟩
theorem lw_p33 : lw_okq (⟨"BoilerBookModel", "wrong", "(III)I"⟩, 24) := ⟨⟨by decide +kernel, by decide +kernel⟩, List.mem_of_getElem? (i := 727) (by decide +kernel), List.mem_of_getElem? (i := 862) (by decide +kernel), List.mem_of_getElem? (i := 863) (by decide +kernel)⟩
theorem lw_p34 : lw_okq (⟨"BoilerBookModel", "noRecipe", "(I)Z"⟩, 24) := ⟨⟨by decide +kernel, by decide +kernel⟩, List.mem_of_getElem? (i := 727) (by decide +kernel), List.mem_of_getElem? (i := 869) (by decide +kernel), List.mem_of_getElem? (i := 870) (by decide +kernel)⟩
theorem lw_p35 : lw_okq (⟨"BoilerBookModel", "isStart", "(I)Z"⟩, 24) := ⟨⟨by decide +kernel, by decide +kernel⟩, List.mem_of_getElem? (i := 727) (by decide +kernel), List.mem_of_getElem? (i := 873) (by decide +kernel), List.mem_of_getElem? (i := 874) (by decide +kernel)⟩
theorem lw_p36 : lw_okq (⟨"BoilerBookModel", "bases", "(I)V"⟩, 24) := ⟨⟨by decide +kernel, by decide +kernel⟩, List.mem_of_getElem? (i := 727) (by decide +kernel), List.mem_of_getElem? (i := 877) (by decide +kernel), List.mem_of_getElem? (i := 878) (by decide +kernel)⟩
theorem lw_p37 : lw_okq (⟨"BoilerBookModel", "reason", "(IIII)I"⟩, 24) := ⟨⟨by decide +kernel, by decide +kernel⟩, List.mem_of_getElem? (i := 727) (by decide +kernel), List.mem_of_getElem? (i := 881) (by decide +kernel), List.mem_of_getElem? (i := 882) (by decide +kernel)⟩
theorem lw_p38 : lw_okq (⟨"BoilerBookModel", "last", "(II)I"⟩, 24) := ⟨⟨by decide +kernel, by decide +kernel⟩, List.mem_of_getElem? (i := 727) (by decide +kernel), List.mem_of_getElem? (i := 885) (by decide +kernel), List.mem_of_getElem? (i := 886) (by decide +kernel)⟩
theorem lw_p39 : lw_okq (⟨"BoilerBookModel", "keeper", "(IIII)I"⟩, 24) := ⟨⟨by decide +kernel, by decide +kernel⟩, List.mem_of_getElem? (i := 727) (by decide +kernel), List.mem_of_getElem? (i := 889) (by decide +kernel), List.mem_of_getElem? (i := 890) (by decide +kernel)⟩
theorem lw_p40 : lw_okq (⟨"BoilerBookModel", "adds", "(III)I"⟩, 24) := ⟨⟨by decide +kernel, by decide +kernel⟩, List.mem_of_getElem? (i := 727) (by decide +kernel), List.mem_of_getElem? (i := 893) (by decide +kernel), List.mem_of_getElem? (i := 894) (by decide +kernel)⟩
theorem lw_p41 : lw_okq (⟨"BoilerBookModel", "puts", "(III)V"⟩, 24) := ⟨⟨by decide +kernel, by decide +kernel⟩, List.mem_of_getElem? (i := 727) (by decide +kernel), List.mem_of_getElem? (i := 897) (by decide +kernel), List.mem_of_getElem? (i := 898) (by decide +kernel)⟩
theorem lw_p42 : lw_okq (⟨"BoilerBookModel", "noBooking", "(I)Z"⟩, 24) := ⟨⟨by decide +kernel, by decide +kernel⟩, List.mem_of_getElem? (i := 727) (by decide +kernel), List.mem_of_getElem? (i := 905) (by decide +kernel), List.mem_of_getElem? (i := 906) (by decide +kernel)⟩
theorem lw_p43 : lw_okq (⟨"BoilerBookModel", "isOpen", "(I)Z"⟩, 24) := ⟨⟨by decide +kernel, by decide +kernel⟩, List.mem_of_getElem? (i := 727) (by decide +kernel), List.mem_of_getElem? (i := 909) (by decide +kernel), List.mem_of_getElem? (i := 910) (by decide +kernel)⟩
theorem lw_p44 : lw_okq (⟨"BoilerBookModel", "ofWish", "(II)I"⟩, 24) := ⟨⟨by decide +kernel, by decide +kernel⟩, List.mem_of_getElem? (i := 727) (by decide +kernel), List.mem_of_getElem? (i := 913) (by decide +kernel), List.mem_of_getElem? (i := 914) (by decide +kernel)⟩
theorem lw_p45 : lw_okq (⟨"BoilerBookModel", "grants", "(III)I"⟩, 24) := ⟨⟨by decide +kernel, by decide +kernel⟩, List.mem_of_getElem? (i := 727) (by decide +kernel), List.mem_of_getElem? (i := 917) (by decide +kernel), List.mem_of_getElem? (i := 918) (by decide +kernel)⟩
theorem lw_p46 : lw_okq (⟨"BoilerBookModel", "first", "(IIIII)I"⟩, 24) := ⟨⟨by decide +kernel, by decide +kernel⟩, List.mem_of_getElem? (i := 727) (by decide +kernel), List.mem_of_getElem? (i := 921) (by decide +kernel), List.mem_of_getElem? (i := 922) (by decide +kernel)⟩
theorem lw_p47 : lw_okq (⟨"BoilerBookModel", "leaves", "(I)V"⟩, 24) := ⟨⟨by decide +kernel, by decide +kernel⟩, List.mem_of_getElem? (i := 727) (by decide +kernel), List.mem_of_getElem? (i := 925) (by decide +kernel), List.mem_of_getElem? (i := 926) (by decide +kernel)⟩
def lw_privs_3 : List (MethodName × Nat) := [(⟨"BoilerBookModel", "ofRecipe", "(II)I"⟩, 24), (⟨"BoilerBookModel", "wrong", "(III)I"⟩, 24), (⟨"BoilerBookModel", "noRecipe", "(I)Z"⟩, 24), (⟨"BoilerBookModel", "isStart", "(I)Z"⟩, 24), (⟨"BoilerBookModel", "bases", "(I)V"⟩, 24), (⟨"BoilerBookModel", "reason", "(IIII)I"⟩, 24), (⟨"BoilerBookModel", "last", "(II)I"⟩, 24), (⟨"BoilerBookModel", "keeper", "(IIII)I"⟩, 24), (⟨"BoilerBookModel", "adds", "(III)I"⟩, 24), (⟨"BoilerBookModel", "puts", "(III)V"⟩, 24), (⟨"BoilerBookModel", "noBooking", "(I)Z"⟩, 24), (⟨"BoilerBookModel", "isOpen", "(I)Z"⟩, 24), (⟨"BoilerBookModel", "ofWish", "(II)I"⟩, 24), (⟨"BoilerBookModel", "grants", "(III)I"⟩, 24), (⟨"BoilerBookModel", "first", "(IIIII)I"⟩, 24), (⟨"BoilerBookModel", "leaves", "(I)V"⟩, 24)]
theorem lw_r3 : ∀ q ∈ lw_privs_3, lw_okq q := List.forall_mem_cons.mpr ⟨lw_p32, List.forall_mem_cons.mpr ⟨lw_p33, List.forall_mem_cons.mpr ⟨lw_p34, List.forall_mem_cons.mpr ⟨lw_p35, List.forall_mem_cons.mpr ⟨lw_p36, List.forall_mem_cons.mpr ⟨lw_p37, List.forall_mem_cons.mpr ⟨lw_p38, List.forall_mem_cons.mpr ⟨lw_p39, List.forall_mem_cons.mpr ⟨lw_p40, List.forall_mem_cons.mpr ⟨lw_p41, List.forall_mem_cons.mpr ⟨lw_p42, List.forall_mem_cons.mpr ⟨lw_p43, List.forall_mem_cons.mpr ⟨lw_p44, List.forall_mem_cons.mpr ⟨lw_p45, List.forall_mem_cons.mpr ⟨lw_p46, List.forall_mem_cons.mpr ⟨lw_p47, fun _ h => absurd h List.not_mem_nil⟩⟩⟩⟩⟩⟩⟩⟩⟩⟩⟩⟩⟩⟩⟩⟩
theorem lw_p48 : lw_okq (⟨"BoilerBookModel", "sick", "()I"⟩, 24) := ⟨⟨by decide +kernel, by decide +kernel⟩, List.mem_of_getElem? (i := 727) (by decide +kernel), List.mem_of_getElem? (i := 937) (by decide +kernel), List.mem_of_getElem? (i := 938) (by decide +kernel)⟩
theorem lw_p49 : lw_okq (⟨"BoilerBookModel", "goes", "()V"⟩, 24) := ⟨⟨by decide +kernel, by decide +kernel⟩, List.mem_of_getElem? (i := 727) (by decide +kernel), List.mem_of_getElem? (i := 945) (by decide +kernel), List.mem_of_getElem? (i := 946) (by decide +kernel)⟩
theorem lw_p50 : lw_okq (⟨"BoilerBookModel", "comes", "()V"⟩, 24) := ⟨⟨by decide +kernel, by decide +kernel⟩, List.mem_of_getElem? (i := 727) (by decide +kernel), List.mem_of_getElem? (i := 949) (by decide +kernel), List.mem_of_getElem? (i := 950) (by decide +kernel)⟩
theorem lw_p51 : lw_okq (⟨"BoilerBookModel", "aTick", "()I"⟩, 24) := ⟨⟨by decide +kernel, by decide +kernel⟩, List.mem_of_getElem? (i := 727) (by decide +kernel), List.mem_of_getElem? (i := 961) (by decide +kernel), List.mem_of_getElem? (i := 962) (by decide +kernel)⟩
theorem lw_p52 : lw_okq (⟨"BoilerBookModel", "draws", "(I)Z"⟩, 24) := ⟨⟨by decide +kernel, by decide +kernel⟩, List.mem_of_getElem? (i := 727) (by decide +kernel), List.mem_of_getElem? (i := 965) (by decide +kernel), List.mem_of_getElem? (i := 966) (by decide +kernel)⟩
theorem lw_p53 : lw_okq (⟨"BoilerBookModel", "bookingsOfText", "()I"⟩, 24) := ⟨⟨by decide +kernel, by decide +kernel⟩, List.mem_of_getElem? (i := 727) (by decide +kernel), List.mem_of_getElem? (i := 981) (by decide +kernel), List.mem_of_getElem? (i := 982) (by decide +kernel)⟩
theorem lw_p54 : lw_okq (⟨"BoilerBookModel", "takesBooking", "()Z"⟩, 24) := ⟨⟨by decide +kernel, by decide +kernel⟩, List.mem_of_getElem? (i := 727) (by decide +kernel), List.mem_of_getElem? (i := 985) (by decide +kernel), List.mem_of_getElem? (i := 986) (by decide +kernel)⟩
theorem lw_p55 : lw_okq (⟨"BoilerBookModel", "takesNumber", "(I)Z"⟩, 24) := ⟨⟨by decide +kernel, by decide +kernel⟩, List.mem_of_getElem? (i := 727) (by decide +kernel), List.mem_of_getElem? (i := 989) (by decide +kernel), List.mem_of_getElem? (i := 990) (by decide +kernel)⟩
theorem lw_p56 : lw_okq (⟨"BoilerBookModel", "isDigit", "()Z"⟩, 24) := ⟨⟨by decide +kernel, by decide +kernel⟩, List.mem_of_getElem? (i := 727) (by decide +kernel), List.mem_of_getElem? (i := 993) (by decide +kernel), List.mem_of_getElem? (i := 994) (by decide +kernel)⟩
theorem lw_p57 : lw_okq (⟨"BoilerBookModel", "takes", "(I)Z"⟩, 24) := ⟨⟨by decide +kernel, by decide +kernel⟩, List.mem_of_getElem? (i := 727) (by decide +kernel), List.mem_of_getElem? (i := 997) (by decide +kernel), List.mem_of_getElem? (i := 998) (by decide +kernel)⟩
theorem lw_p58 : lw_okq (⟨"BoilerBookModel", "trades", "()V"⟩, 24) := ⟨⟨by decide +kernel, by decide +kernel⟩, List.mem_of_getElem? (i := 727) (by decide +kernel), List.mem_of_getElem? (i := 1001) (by decide +kernel), List.mem_of_getElem? (i := 1002) (by decide +kernel)⟩
theorem lw_p59 : lw_okq (⟨"BoilerBookModel", "bookings", "(IIII)I"⟩, 24) := ⟨⟨by decide +kernel, by decide +kernel⟩, List.mem_of_getElem? (i := 727) (by decide +kernel), List.mem_of_getElem? (i := 1021) (by decide +kernel), List.mem_of_getElem? (i := 1022) (by decide +kernel)⟩
def lw_privs_4 : List (MethodName × Nat) := [(⟨"BoilerBookModel", "sick", "()I"⟩, 24), (⟨"BoilerBookModel", "goes", "()V"⟩, 24), (⟨"BoilerBookModel", "comes", "()V"⟩, 24), (⟨"BoilerBookModel", "aTick", "()I"⟩, 24), (⟨"BoilerBookModel", "draws", "(I)Z"⟩, 24), (⟨"BoilerBookModel", "bookingsOfText", "()I"⟩, 24), (⟨"BoilerBookModel", "takesBooking", "()Z"⟩, 24), (⟨"BoilerBookModel", "takesNumber", "(I)Z"⟩, 24), (⟨"BoilerBookModel", "isDigit", "()Z"⟩, 24), (⟨"BoilerBookModel", "takes", "(I)Z"⟩, 24), (⟨"BoilerBookModel", "trades", "()V"⟩, 24), (⟨"BoilerBookModel", "bookings", "(IIII)I"⟩, 24)]
theorem lw_r4 : ∀ q ∈ lw_privs_4, lw_okq q := List.forall_mem_cons.mpr ⟨lw_p48, List.forall_mem_cons.mpr ⟨lw_p49, List.forall_mem_cons.mpr ⟨lw_p50, List.forall_mem_cons.mpr ⟨lw_p51, List.forall_mem_cons.mpr ⟨lw_p52, List.forall_mem_cons.mpr ⟨lw_p53, List.forall_mem_cons.mpr ⟨lw_p54, List.forall_mem_cons.mpr ⟨lw_p55, List.forall_mem_cons.mpr ⟨lw_p56, List.forall_mem_cons.mpr ⟨lw_p57, List.forall_mem_cons.mpr ⟨lw_p58, List.forall_mem_cons.mpr ⟨lw_p59, fun _ h => absurd h List.not_mem_nil⟩⟩⟩⟩⟩⟩⟩⟩⟩⟩⟩⟩
def lw_privs : List (MethodName × Nat) := lw_privs_1 ++ (lw_privs_2 ++ (lw_privs_3 ++ (lw_privs_4)))
def lw_tbl : List Cond := k2_sels lw_privs ++ tables_1
theorem lw_privs_ok : ∀ q ∈ lw_privs, lw_okq q := by
  show ∀ q ∈ lw_privs_1 ++ (lw_privs_2 ++ (lw_privs_3 ++ (lw_privs_4))), lw_okq q
  exact List.forall_mem_append.mpr ⟨lw_r1, List.forall_mem_append.mpr ⟨lw_r2, List.forall_mem_append.mpr ⟨lw_r3, lw_r4⟩⟩⟩
def RX0 : String := "BoilerBook$Bookings"
def TX0 : u_T := fun k => match k with
  | 0 => ("BoilerBook$Bookings", "size", "I", false)
  | 1 => ("BoilerBook$Bookings", "robot", "[I", true)
  | 2 => ("BoilerBook$Bookings", "recipe", "[I", true)
  | 3 => ("BoilerBook$Bookings", "start", "[I", true)
  | 4 => ("BoilerBook$Bookings", "state", "[I", true)
  | _ => ("BoilerBook$Bookings", "drawn", "[I", true)
def tyX0 : Nat → FieldType := fun k => match k with
  | 0 => .int
  | 1 => .array .int
  | 2 => .array .int
  | 3 => .array .int
  | 4 => .array .int
  | _ => .array .int
theorem nmX0 : ∀ a, a < 6 → ∀ b, b < 6 → a ≠ b → (TX0 a).2.1 ≠ (TX0 b).2.1 := by decide +kernel
theorem tyX0_ok : ∀ k, k < 6 → parseFieldDescriptor (TX0 k).2.2.1 = some (tyX0 k) := by decide +kernel
abbrev cX0_init : ByteArray := prog_2_method_1_code
def yX0_init : MethodName := ⟨RX0, "<init>", "()V"⟩
abbrev cX0_has : ByteArray := prog_2_method_2_code
def yX0_has : MethodName := ⟨RX0, "has", "(I)Z"⟩
abbrev cX0_append : ByteArray := prog_2_method_3_code
def yX0_append : MethodName := ⟨RX0, "append", "(III)I"⟩
abbrev cX0_stateOf : ByteArray := prog_2_method_4_code
def yX0_stateOf : MethodName := ⟨RX0, "stateOf", "(I)I"⟩
abbrev cX0_isOpen : ByteArray := prog_2_method_5_code
def yX0_isOpen : MethodName := ⟨RX0, "isOpen", "(I)Z"⟩
abbrev cX0_keepsBusy : ByteArray := prog_2_method_6_code
def yX0_keepsBusy : MethodName := ⟨RX0, "keepsBusy", "(II)Z"⟩
abbrev cX0_inState : ByteArray := prog_2_method_7_code
def yX0_inState : MethodName := ⟨RX0, "inState", "(I)I"⟩
abbrev cX0_ofRobot : ByteArray := prog_2_method_8_code
def yX0_ofRobot : MethodName := ⟨RX0, "ofRobot", "(II)I"⟩
abbrev cX0_doneOfRecipe : ByteArray := prog_2_method_9_code
def yX0_doneOfRecipe : MethodName := ⟨RX0, "doneOfRecipe", "(I)I"⟩
abbrev cX0_copyFrom : ByteArray := prog_2_method_10_code
def yX0_copyFrom : MethodName := ⟨RX0, "copyFrom", "(LBoilerBook$Bookings;)V"⟩
def RX1 : String := "BoilerBook$Course"
def TX1 : u_T := fun k => match k with
  | 0 => ("BoilerBook$Course", "tick", "I", false)
  | 1 => ("BoilerBook$Course", "pressure", "I", false)
  | 2 => ("BoilerBook$Course", "most", "I", false)
  | 3 => ("BoilerBook$Course", "heat", "I", false)
  | 4 => ("BoilerBook$Course", "lowest", "I", false)
  | 5 => ("BoilerBook$Course", "taken", "I", false)
  | 6 => ("BoilerBook$Course", "rows", "I", false)
  | 7 => ("BoilerBook$Course", "openRows", "I", false)
  | 8 => ("BoilerBook$Course", "number", "[I", true)
  | 9 => ("BoilerBook$Course", "state", "[I", true)
  | 10 => ("BoilerBook$Course", "drawn", "[I", true)
  | 11 => ("BoilerBook$Course", "spoiledIn", "[I", true)
  | 12 => ("BoilerBook$Course", "leastSpare", "[I", true)
  | 13 => ("BoilerBook$Course", "floor", "[I", true)
  | 14 => ("BoilerBook$Course", "draw", "[I", true)
  | 15 => ("BoilerBook$Course", "first", "[I", true)
  | _ => ("BoilerBook$Course", "last", "[I", true)
def tyX1 : Nat → FieldType := fun k => match k with
  | 0 => .int
  | 1 => .int
  | 2 => .int
  | 3 => .int
  | 4 => .int
  | 5 => .int
  | 6 => .int
  | 7 => .int
  | 8 => .array .int
  | 9 => .array .int
  | 10 => .array .int
  | 11 => .array .int
  | 12 => .array .int
  | 13 => .array .int
  | 14 => .array .int
  | 15 => .array .int
  | _ => .array .int
theorem nmX1 : ∀ a, a < 17 → ∀ b, b < 17 → a ≠ b → (TX1 a).2.1 ≠ (TX1 b).2.1 := by decide +kernel
theorem tyX1_ok : ∀ k, k < 17 → parseFieldDescriptor (TX1 k).2.2.1 = some (tyX1 k) := by decide +kernel
abbrev cX1_init : ByteArray := prog_3_method_1_code
def yX1_init : MethodName := ⟨RX1, "<init>", "()V"⟩
abbrev cX1_begin : ByteArray := prog_3_method_2_code
def yX1_begin : MethodName := ⟨RX1, "begin", "(LBoilerBook$State;)V"⟩
abbrev cX1_beginWith : ByteArray := prog_3_method_3_code
def yX1_beginWith : MethodName := ⟨RX1, "beginWith", "(LBoilerBook$State;III)V"⟩
abbrev cX1_addRow : ByteArray := prog_3_method_4_code
def yX1_addRow : MethodName := ⟨RX1, "addRow", "(LBoilerBook$State;III)V"⟩
abbrev cX1_passTicks : ByteArray := prog_3_method_5_code
def yX1_passTicks : MethodName := ⟨RX1, "passTicks", "(I)V"⟩
abbrev cX1_passToEnd : ByteArray := prog_3_method_6_code
def yX1_passToEnd : MethodName := ⟨RX1, "passToEnd", "()V"⟩
abbrev cX1_passTick : ByteArray := prog_3_method_7_code
def yX1_passTick : MethodName := ⟨RX1, "passTick", "()V"⟩
abbrev cX1_drawFor : ByteArray := prog_3_method_8_code
def yX1_drawFor : MethodName := ⟨RX1, "drawFor", "(I)V"⟩
abbrev cX1_rowOf : ByteArray := prog_3_method_9_code
def yX1_rowOf : MethodName := ⟨RX1, "rowOf", "(I)I"⟩
abbrev cX1_countSpoiled : ByteArray := prog_3_method_10_code
def yX1_countSpoiled : MethodName := ⟨RX1, "countSpoiled", "()I"⟩
def RX2 : String := "BoilerBook$History"
def TX2 : u_T := fun k => match k with
  | 0 => ("BoilerBook$History", "states", "[LBoilerBook$State;", true)
  | _ => ("BoilerBook$History", "size", "I", false)
def tyX2 : Nat → FieldType := fun k => match k with
  | 0 => .array (.object "BoilerBook$State")
  | _ => .int
theorem nmX2 : ∀ a, a < 2 → ∀ b, b < 2 → a ≠ b → (TX2 a).2.1 ≠ (TX2 b).2.1 := by decide +kernel
theorem tyX2_ok : ∀ k, k < 2 → parseFieldDescriptor (TX2 k).2.2.1 = some (tyX2 k) := by decide +kernel
abbrev cX2_init : ByteArray := prog_4_method_1_code
def yX2_init : MethodName := ⟨RX2, "<init>", "()V"⟩
abbrev cX2_push : ByteArray := prog_4_method_2_code
def yX2_push : MethodName := ⟨RX2, "push", "(LBoilerBook$State;)V"⟩
abbrev cX2_dropOldest : ByteArray := prog_4_method_3_code
def yX2_dropOldest : MethodName := ⟨RX2, "dropOldest", "()V"⟩
abbrev cX2_popInto : ByteArray := prog_4_method_4_code
def yX2_popInto : MethodName := ⟨RX2, "popInto", "(LBoilerBook$State;)V"⟩
def RX3 : String := "BoilerBook$Judge"
def TX3 : u_T := fun k => match k with
  | 0 => ("BoilerBook$Judge", "course", "LBoilerBook$Course;", true)
  | 1 => ("BoilerBook$Judge", "doomedWithout", "[Z", true)
  | 2 => ("BoilerBook$Judge", "culprit", "I", false)
  | _ => ("BoilerBook$Judge", "spoiledIn", "I", false)
def tyX3 : Nat → FieldType := fun k => match k with
  | 0 => .object "BoilerBook$Course"
  | 1 => .array .boolean
  | 2 => .int
  | _ => .int
theorem nmX3 : ∀ a, a < 4 → ∀ b, b < 4 → a ≠ b → (TX3 a).2.1 ≠ (TX3 b).2.1 := by decide +kernel
theorem tyX3_ok : ∀ k, k < 4 → parseFieldDescriptor (TX3 k).2.2.1 = some (tyX3 k) := by decide +kernel
abbrev cX3_init : ByteArray := prog_5_method_1_code
def yX3_init : MethodName := ⟨RX3, "<init>", "()V"⟩
abbrev cX3_reasonAgainst : ByteArray := prog_5_method_2_code
def yX3_reasonAgainst : MethodName := ⟨RX3, "reasonAgainst", "(LBoilerBook$State;IIII)I"⟩
abbrev cX3_firstFit : ByteArray := prog_5_method_3_code
def yX3_firstFit : MethodName := ⟨RX3, "firstFit", "(LBoilerBook$State;IIIII)I"⟩
abbrev cX3_forecastWithout : ByteArray := prog_5_method_4_code
def yX3_forecastWithout : MethodName := ⟨RX3, "forecastWithout", "(LBoilerBook$State;I)V"⟩
abbrev cX3_reasonNow : ByteArray := prog_5_method_5_code
def yX3_reasonNow : MethodName := ⟨RX3, "reasonNow", "(LBoilerBook$State;IIII)I"⟩
abbrev cX3_reasonByOthers : ByteArray := prog_5_method_6_code
def yX3_reasonByOthers : MethodName := ⟨RX3, "reasonByOthers", "(I)I"⟩
abbrev cX3_wasDoomed : ByteArray := prog_5_method_7_code
def yX3_wasDoomed : MethodName := ⟨RX3, "wasDoomed", "(I)Z"⟩
def RX4 : String := "BoilerBook$Recipes"
def TX4 : u_T := fun k => match k with
  | 0 => ("BoilerBook$Recipes", "size", "I", false)
  | 1 => ("BoilerBook$Recipes", "floor", "[I", true)
  | 2 => ("BoilerBook$Recipes", "draw", "[I", true)
  | 3 => ("BoilerBook$Recipes", "ticks", "[I", true)
  | _ => ("BoilerBook$Recipes", "cool", "[I", true)
def tyX4 : Nat → FieldType := fun k => match k with
  | 0 => .int
  | 1 => .array .int
  | 2 => .array .int
  | 3 => .array .int
  | _ => .array .int
theorem nmX4 : ∀ a, a < 5 → ∀ b, b < 5 → a ≠ b → (TX4 a).2.1 ≠ (TX4 b).2.1 := by decide +kernel
theorem tyX4_ok : ∀ k, k < 5 → parseFieldDescriptor (TX4 k).2.2.1 = some (tyX4 k) := by decide +kernel
abbrev cX4_init : ByteArray := prog_6_method_1_code
def yX4_init : MethodName := ⟨RX4, "<init>", "()V"⟩
abbrev cX4_has : ByteArray := prog_6_method_2_code
def yX4_has : MethodName := ⟨RX4, "has", "(I)Z"⟩
abbrev cX4_append : ByteArray := prog_6_method_3_code
def yX4_append : MethodName := ⟨RX4, "append", "(IIII)I"⟩
abbrev cX4_lastBusy : ByteArray := prog_6_method_4_code
def yX4_lastBusy : MethodName := ⟨RX4, "lastBusy", "(II)I"⟩
abbrev cX4_copyFrom : ByteArray := prog_6_method_5_code
def yX4_copyFrom : MethodName := ⟨RX4, "copyFrom", "(LBoilerBook$Recipes;)V"⟩
def RX5 : String := "BoilerBook$State"
def TX5 : u_T := fun k => match k with
  | 0 => ("BoilerBook$State", "tick", "I", false)
  | 1 => ("BoilerBook$State", "pressure", "I", false)
  | 2 => ("BoilerBook$State", "most", "I", false)
  | 3 => ("BoilerBook$State", "heat", "I", false)
  | 4 => ("BoilerBook$State", "granted", "I", false)
  | 5 => ("BoilerBook$State", "dropped", "I", false)
  | 6 => ("BoilerBook$State", "drawn", "I", false)
  | 7 => ("BoilerBook$State", "recipes", "LBoilerBook$Recipes;", true)
  | 8 => ("BoilerBook$State", "bookings", "LBoilerBook$Bookings;", true)
  | _ => ("BoilerBook$State", "wishes", "LBoilerBook$Wishes;", true)
def tyX5 : Nat → FieldType := fun k => match k with
  | 0 => .int
  | 1 => .int
  | 2 => .int
  | 3 => .int
  | 4 => .int
  | 5 => .int
  | 6 => .int
  | 7 => .object "BoilerBook$Recipes"
  | 8 => .object "BoilerBook$Bookings"
  | _ => .object "BoilerBook$Wishes"
theorem nmX5 : ∀ a, a < 10 → ∀ b, b < 10 → a ≠ b → (TX5 a).2.1 ≠ (TX5 b).2.1 := by decide +kernel
theorem tyX5_ok : ∀ k, k < 10 → parseFieldDescriptor (TX5 k).2.2.1 = some (tyX5 k) := by decide +kernel
abbrev cX5_init : ByteArray := prog_7_method_1_code
def yX5_init : MethodName := ⟨RX5, "<init>", "()V"⟩
abbrev cX5_canStart : ByteArray := prog_7_method_2_code
def yX5_canStart : MethodName := ⟨RX5, "canStart", "(I)Z"⟩
abbrev cX5_firstMeeting : ByteArray := prog_7_method_3_code
def yX5_firstMeeting : MethodName := ⟨RX5, "firstMeeting", "(IIII)I"⟩
abbrev cX5_isBusyIn : ByteArray := prog_7_method_4_code
def yX5_isBusyIn : MethodName := ⟨RX5, "isBusyIn", "(II)Z"⟩
abbrev cX5_firstFreeTick : ByteArray := prog_7_method_5_code
def yX5_firstFreeTick : MethodName := ⟨RX5, "firstFreeTick", "(I)I"⟩
abbrev cX5_copyFrom : ByteArray := prog_7_method_6_code
def yX5_copyFrom : MethodName := ⟨RX5, "copyFrom", "(LBoilerBook$State;)V"⟩
def RX6 : String := "BoilerBook$Text"
def TX6 : u_T := fun k => match k with
  | 0 => ("BoilerBook$Text", "characters", "[C", true)
  | 1 => ("BoilerBook$Text", "length", "I", false)
  | 2 => ("BoilerBook$Text", "entries", "I", false)
  | 3 => ("BoilerBook$Text", "robot", "[I", true)
  | 4 => ("BoilerBook$Text", "recipe", "[I", true)
  | 5 => ("BoilerBook$Text", "start", "[I", true)
  | _ => ("BoilerBook$Text", "at", "I", false)
def tyX6 : Nat → FieldType := fun k => match k with
  | 0 => .array .char
  | 1 => .int
  | 2 => .int
  | 3 => .array .int
  | 4 => .array .int
  | 5 => .array .int
  | _ => .int
theorem nmX6 : ∀ a, a < 7 → ∀ b, b < 7 → a ≠ b → (TX6 a).2.1 ≠ (TX6 b).2.1 := by decide +kernel
theorem tyX6_ok : ∀ k, k < 7 → parseFieldDescriptor (TX6 k).2.2.1 = some (tyX6 k) := by decide +kernel
abbrev cX6_init : ByteArray := prog_8_method_1_code
def yX6_init : MethodName := ⟨RX6, "<init>", "()V"⟩
abbrev cX6_append : ByteArray := prog_8_method_2_code
def yX6_append : MethodName := ⟨RX6, "append", "(C)I"⟩
abbrev cX6_read : ByteArray := prog_8_method_3_code
def yX6_read : MethodName := ⟨RX6, "read", "()I"⟩
abbrev cX6_readEntry : ByteArray := prog_8_method_4_code
def yX6_readEntry : MethodName := ⟨RX6, "readEntry", "(I)Z"⟩
abbrev cX6_takeStart : ByteArray := prog_8_method_5_code
def yX6_takeStart : MethodName := ⟨RX6, "takeStart", "()I"⟩
abbrev cX6_current : ByteArray := prog_8_method_6_code
def yX6_current : MethodName := ⟨RX6, "current", "()C"⟩
abbrev cX6_isDigit : ByteArray := prog_8_method_7_code
def yX6_isDigit : MethodName := ⟨RX6, "isDigit", "()Z"⟩
abbrev cX6_takeDigit : ByteArray := prog_8_method_8_code
def yX6_takeDigit : MethodName := ⟨RX6, "takeDigit", "()I"⟩
abbrev cX6_skip : ByteArray := prog_8_method_9_code
def yX6_skip : MethodName := ⟨RX6, "skip", "(C)Z"⟩
def RX7 : String := "BoilerBook$Wishes"
def TX7 : u_T := fun k => match k with
  | 0 => ("BoilerBook$Wishes", "size", "I", false)
  | 1 => ("BoilerBook$Wishes", "robot", "[I", true)
  | 2 => ("BoilerBook$Wishes", "recipe", "[I", true)
  | _ => ("BoilerBook$Wishes", "first", "[I", true)
def tyX7 : Nat → FieldType := fun k => match k with
  | 0 => .int
  | 1 => .array .int
  | 2 => .array .int
  | _ => .array .int
theorem nmX7 : ∀ a, a < 4 → ∀ b, b < 4 → a ≠ b → (TX7 a).2.1 ≠ (TX7 b).2.1 := by decide +kernel
theorem tyX7_ok : ∀ k, k < 4 → parseFieldDescriptor (TX7 k).2.2.1 = some (tyX7 k) := by decide +kernel
abbrev cX7_init : ByteArray := prog_9_method_1_code
def yX7_init : MethodName := ⟨RX7, "<init>", "()V"⟩
abbrev cX7_has : ByteArray := prog_9_method_2_code
def yX7_has : MethodName := ⟨RX7, "has", "(I)Z"⟩
abbrev cX7_append : ByteArray := prog_9_method_3_code
def yX7_append : MethodName := ⟨RX7, "append", "(III)I"⟩
abbrev cX7_takeOut : ByteArray := prog_9_method_4_code
def yX7_takeOut : MethodName := ⟨RX7, "takeOut", "(I)V"⟩
abbrev cX7_dropUntil : ByteArray := prog_9_method_5_code
def yX7_dropUntil : MethodName := ⟨RX7, "dropUntil", "(I)I"⟩
abbrev cX7_copyFrom : ByteArray := prog_9_method_6_code
def yX7_copyFrom : MethodName := ⟨RX7, "copyFrom", "(LBoilerBook$Wishes;)V"⟩
def RX8 : String := "BoilerBook"
def TX8 : u_T := fun k => match k with
  | 0 => ("BoilerBook", "now", "LBoilerBook$State;", true)
  | 1 => ("BoilerBook", "before", "LBoilerBook$State;", true)
  | 2 => ("BoilerBook", "snapshot", "LBoilerBook$State;", true)
  | 3 => ("BoilerBook", "kept", "Z", false)
  | 4 => ("BoilerBook", "history", "LBoilerBook$History;", true)
  | 5 => ("BoilerBook", "text", "LBoilerBook$Text;", true)
  | 6 => ("BoilerBook", "course", "LBoilerBook$Course;", true)
  | 7 => ("BoilerBook", "judge", "LBoilerBook$Judge;", true)
  | _ => ("BoilerBook", "repaired", "[Z", true)
def tyX8 : Nat → FieldType := fun k => match k with
  | 0 => .object "BoilerBook$State"
  | 1 => .object "BoilerBook$State"
  | 2 => .object "BoilerBook$State"
  | 3 => .boolean
  | 4 => .object "BoilerBook$History"
  | 5 => .object "BoilerBook$Text"
  | 6 => .object "BoilerBook$Course"
  | 7 => .object "BoilerBook$Judge"
  | _ => .array .boolean
theorem nmX8 : ∀ a, a < 9 → ∀ b, b < 9 → a ≠ b → (TX8 a).2.1 ≠ (TX8 b).2.1 := by decide +kernel
theorem tyX8_ok : ∀ k, k < 9 → parseFieldDescriptor (TX8 k).2.2.1 = some (tyX8 k) := by decide +kernel
abbrev cX8_init : ByteArray := prog_1_method_1_code
def yX8_init : MethodName := ⟨RX8, "<init>", "()V"⟩
abbrev cX8_addRecipe : ByteArray := prog_1_method_2_code
def yX8_addRecipe : MethodName := ⟨RX8, "addRecipe", "(IIII)I"⟩
abbrev cX8_setHeat : ByteArray := prog_1_method_3_code
def yX8_setHeat : MethodName := ⟨RX8, "setHeat", "(I)I"⟩
abbrev cX8_setMost : ByteArray := prog_1_method_4_code
def yX8_setMost : MethodName := ⟨RX8, "setMost", "(I)I"⟩
abbrev cX8_fall : ByteArray := prog_1_method_5_code
def yX8_fall : MethodName := ⟨RX8, "fall", "(I)I"⟩
abbrev cX8_book : ByteArray := prog_1_method_6_code
def yX8_book : MethodName := ⟨RX8, "book", "(III)I"⟩
abbrev cX8_cancel : ByteArray := prog_1_method_7_code
def yX8_cancel : MethodName := ⟨RX8, "cancel", "(I)I"⟩
abbrev cX8_move : ByteArray := prog_1_method_8_code
def yX8_move : MethodName := ⟨RX8, "move", "(II)I"⟩
abbrev cX8_repair : ByteArray := prog_1_method_9_code
def yX8_repair : MethodName := ⟨RX8, "repair", "()I"⟩
abbrev cX8_wish : ByteArray := prog_1_method_10_code
def yX8_wish : MethodName := ⟨RX8, "wish", "(III)I"⟩
abbrev cX8_unwish : ByteArray := prog_1_method_11_code
def yX8_unwish : MethodName := ⟨RX8, "unwish", "(I)I"⟩
abbrev cX8_pass : ByteArray := prog_1_method_12_code
def yX8_pass : MethodName := ⟨RX8, "pass", "(I)I"⟩
abbrev cX8_type : ByteArray := prog_1_method_13_code
def yX8_type : MethodName := ⟨RX8, "type", "(C)I"⟩
abbrev cX8_clearText : ByteArray := prog_1_method_14_code
def yX8_clearText : MethodName := ⟨RX8, "clearText", "()I"⟩
abbrev cX8_bookAll : ByteArray := prog_1_method_15_code
def yX8_bookAll : MethodName := ⟨RX8, "bookAll", "()I"⟩
abbrev cX8_undo : ByteArray := prog_1_method_16_code
def yX8_undo : MethodName := ⟨RX8, "undo", "()I"⟩
abbrev cX8_keep : ByteArray := prog_1_method_17_code
def yX8_keep : MethodName := ⟨RX8, "keep", "()I"⟩
abbrev cX8_restore : ByteArray := prog_1_method_18_code
def yX8_restore : MethodName := ⟨RX8, "restore", "()I"⟩
abbrev cX8_recipe : ByteArray := prog_1_method_19_code
def yX8_recipe : MethodName := ⟨RX8, "recipe", "(II)I"⟩
abbrev cX8_robot : ByteArray := prog_1_method_20_code
def yX8_robot : MethodName := ⟨RX8, "robot", "(II)I"⟩
abbrev cX8_booking : ByteArray := prog_1_method_21_code
def yX8_booking : MethodName := ⟨RX8, "booking", "(II)I"⟩
abbrev cX8_wishTold : ByteArray := prog_1_method_22_code
def yX8_wishTold : MethodName := ⟨RX8, "wishTold", "(II)I"⟩
abbrev cX8_pressureIn : ByteArray := prog_1_method_23_code
def yX8_pressureIn : MethodName := ⟨RX8, "pressureIn", "(I)I"⟩
abbrev cX8_lowestIn : ByteArray := prog_1_method_24_code
def yX8_lowestIn : MethodName := ⟨RX8, "lowestIn", "(I)I"⟩
abbrev cX8_why : ByteArray := prog_1_method_25_code
def yX8_why : MethodName := ⟨RX8, "why", "(IIII)I"⟩
abbrev cX8_earliest : ByteArray := prog_1_method_26_code
def yX8_earliest : MethodName := ⟨RX8, "earliest", "(III)I"⟩
abbrev cX8_count : ByteArray := prog_1_method_27_code
def yX8_count : MethodName := ⟨RX8, "count", "(I)I"⟩
abbrev cX8_within : ByteArray := prog_1_method_28_code
def yX8_within : MethodName := ⟨RX8, "within", "(III)Z"⟩
abbrev cX8_isRobot : ByteArray := prog_1_method_29_code
def yX8_isRobot : MethodName := ⟨RX8, "isRobot", "(I)Z"⟩
abbrev cX8_errorOf : ByteArray := prog_1_method_30_code
def yX8_errorOf : MethodName := ⟨RX8, "errorOf", "(I)I"⟩
abbrev cX8_errorOfBooking : ByteArray := prog_1_method_31_code
def yX8_errorOfBooking : MethodName := ⟨RX8, "errorOfBooking", "(III)I"⟩
abbrev cX8_forecastToEnd : ByteArray := prog_1_method_32_code
def yX8_forecastToEnd : MethodName := ⟨RX8, "forecastToEnd", "()V"⟩
abbrev cX8_countDoomed : ByteArray := prog_1_method_33_code
def yX8_countDoomed : MethodName := ⟨RX8, "countDoomed", "()I"⟩
abbrev cX8_stateInTheEnd : ByteArray := prog_1_method_34_code
def yX8_stateInTheEnd : MethodName := ⟨RX8, "stateInTheEnd", "(I)I"⟩
abbrev cX8_tickOfSpoiling : ByteArray := prog_1_method_35_code
def yX8_tickOfSpoiling : MethodName := ⟨RX8, "tickOfSpoiling", "(I)I"⟩
abbrev cX8_leastSpare : ByteArray := prog_1_method_36_code
def yX8_leastSpare : MethodName := ⟨RX8, "leastSpare", "(I)I"⟩
abbrev cX8_tryWishes : ByteArray := prog_1_method_37_code
def yX8_tryWishes : MethodName := ⟨RX8, "tryWishes", "()I"⟩
abbrev cX8_firstToRepair : ByteArray := prog_1_method_38_code
def yX8_firstToRepair : MethodName := ⟨RX8, "firstToRepair", "()I"⟩
abbrev cX8_wasRepaired : ByteArray := prog_1_method_39_code
def yX8_wasRepaired : MethodName := ⟨RX8, "wasRepaired", "(I)Z"⟩
abbrev cX8_moveLaterOrCancel : ByteArray := prog_1_method_40_code
def yX8_moveLaterOrCancel : MethodName := ⟨RX8, "moveLaterOrCancel", "(I)Z"⟩
abbrev cX8_takeOver : ByteArray := prog_1_method_41_code
def yX8_takeOver : MethodName := ⟨RX8, "takeOver", "(LBoilerBook$Course;)I"⟩
def RX9 : String := "BoilerBookModel"
def TX9 : u_T := fun k => match k with
  | 0 => ("BoilerBookModel", "now", "[I", true)
  | 1 => ("BoilerBookModel", "history", "[I", true)
  | 2 => ("BoilerBookModel", "kept", "I", false)
  | 3 => ("BoilerBookModel", "slot", "[I", true)
  | 4 => ("BoilerBookModel", "isFilled", "Z", false)
  | 5 => ("BoilerBookModel", "spare", "[I", true)
  | 6 => ("BoilerBookModel", "ends", "[I", true)
  | 7 => ("BoilerBookModel", "spoils", "[I", true)
  | 8 => ("BoilerBookModel", "leasts", "[I", true)
  | 9 => ("BoilerBookModel", "base", "[I", true)
  | 10 => ("BoilerBookModel", "pressure", "I", false)
  | 11 => ("BoilerBookModel", "extra", "I", false)
  | 12 => ("BoilerBookModel", "extraStart", "I", false)
  | 13 => ("BoilerBookModel", "out", "I", false)
  | 14 => ("BoilerBookModel", "moved", "I", false)
  | 15 => ("BoilerBookModel", "movedStart", "I", false)
  | 16 => ("BoilerBookModel", "victim", "I", false)
  | 17 => ("BoilerBookModel", "isMended", "[Z", true)
  | 18 => ("BoilerBookModel", "typed", "I", false)
  | 19 => ("BoilerBookModel", "text", "[C", true)
  | 20 => ("BoilerBookModel", "at", "I", false)
  | 21 => ("BoilerBookModel", "number", "I", false)
  | 22 => ("BoilerBookModel", "readRobot", "I", false)
  | _ => ("BoilerBookModel", "readRecipe", "I", false)
def tyX9 : Nat → FieldType := fun k => match k with
  | 0 => .array .int
  | 1 => .array .int
  | 2 => .int
  | 3 => .array .int
  | 4 => .boolean
  | 5 => .array .int
  | 6 => .array .int
  | 7 => .array .int
  | 8 => .array .int
  | 9 => .array .int
  | 10 => .int
  | 11 => .int
  | 12 => .int
  | 13 => .int
  | 14 => .int
  | 15 => .int
  | 16 => .int
  | 17 => .array .boolean
  | 18 => .int
  | 19 => .array .char
  | 20 => .int
  | 21 => .int
  | 22 => .int
  | _ => .int
theorem nmX9 : ∀ a, a < 24 → ∀ b, b < 24 → a ≠ b → (TX9 a).2.1 ≠ (TX9 b).2.1 := by decide +kernel
theorem tyX9_ok : ∀ k, k < 24 → parseFieldDescriptor (TX9 k).2.2.1 = some (tyX9 k) := by decide +kernel
abbrev cX9_init : ByteArray := prog_11_method_1_code
def yX9_init : MethodName := ⟨RX9, "<init>", "()V"⟩
abbrev cX9_in : ByteArray := prog_11_method_2_code
def yX9_in : MethodName := ⟨RX9, "in", "(III)Z"⟩
abbrev cX9_of : ByteArray := prog_11_method_3_code
def yX9_of : MethodName := ⟨RX9, "of", "(II)I"⟩
abbrev cX9_puts : ByteArray := prog_11_method_4_code
def yX9_puts : MethodName := ⟨RX9, "puts", "(III)V"⟩
abbrev cX9_ofRecipe : ByteArray := prog_11_method_5_code
def yX9_ofRecipe : MethodName := ⟨RX9, "ofRecipe", "(II)I"⟩
abbrev cX9_ofWish : ByteArray := prog_11_method_6_code
def yX9_ofWish : MethodName := ⟨RX9, "ofWish", "(II)I"⟩
abbrev cX9_noRecipe : ByteArray := prog_11_method_7_code
def yX9_noRecipe : MethodName := ⟨RX9, "noRecipe", "(I)Z"⟩
abbrev cX9_noRobot : ByteArray := prog_11_method_8_code
def yX9_noRobot : MethodName := ⟨RX9, "noRobot", "(I)Z"⟩
abbrev cX9_noBooking : ByteArray := prog_11_method_9_code
def yX9_noBooking : MethodName := ⟨RX9, "noBooking", "(I)Z"⟩
abbrev cX9_isStart : ByteArray := prog_11_method_10_code
def yX9_isStart : MethodName := ⟨RX9, "isStart", "(I)Z"⟩
abbrev cX9_isOpen : ByteArray := prog_11_method_11_code
def yX9_isOpen : MethodName := ⟨RX9, "isOpen", "(I)Z"⟩
abbrev cX9_record : ByteArray := prog_11_method_12_code
def yX9_record : MethodName := ⟨RX9, "record", "()V"⟩
abbrev cX9_asks : ByteArray := prog_11_method_13_code
def yX9_asks : MethodName := ⟨RX9, "asks", "(IIII)V"⟩
abbrev cX9_begins : ByteArray := prog_11_method_14_code
def yX9_begins : MethodName := ⟨RX9, "begins", "()V"⟩
abbrev cX9_foresees : ByteArray := prog_11_method_15_code
def yX9_foresees : MethodName := ⟨RX9, "foresees", "(I)V"⟩
abbrev cX9_forecast : ByteArray := prog_11_method_16_code
def yX9_forecast : MethodName := ⟨RX9, "forecast", "()V"⟩
abbrev cX9_doomed : ByteArray := prog_11_method_17_code
def yX9_doomed : MethodName := ⟨RX9, "doomed", "()I"⟩
abbrev cX9_last : ByteArray := prog_11_method_18_code
def yX9_last : MethodName := ⟨RX9, "last", "(II)I"⟩
abbrev cX9_keeper : ByteArray := prog_11_method_19_code
def yX9_keeper : MethodName := ⟨RX9, "keeper", "(IIII)I"⟩
abbrev cX9_bases : ByteArray := prog_11_method_20_code
def yX9_bases : MethodName := ⟨RX9, "bases", "(I)V"⟩
abbrev cX9_reason : ByteArray := prog_11_method_21_code
def yX9_reason : MethodName := ⟨RX9, "reason", "(IIII)I"⟩
abbrev cX9_first : ByteArray := prog_11_method_22_code
def yX9_first : MethodName := ⟨RX9, "first", "(IIIII)I"⟩
abbrev cX9_adds : ByteArray := prog_11_method_23_code
def yX9_adds : MethodName := ⟨RX9, "adds", "(III)I"⟩
abbrev cX9_addRecipe : ByteArray := prog_11_method_24_code
def yX9_addRecipe : MethodName := ⟨RX9, "addRecipe", "(IIII)I"⟩
abbrev cX9_setHeat : ByteArray := prog_11_method_25_code
def yX9_setHeat : MethodName := ⟨RX9, "setHeat", "(I)I"⟩
abbrev cX9_setMost : ByteArray := prog_11_method_26_code
def yX9_setMost : MethodName := ⟨RX9, "setMost", "(I)I"⟩
abbrev cX9_fall : ByteArray := prog_11_method_27_code
def yX9_fall : MethodName := ⟨RX9, "fall", "(I)I"⟩
abbrev cX9_wrong : ByteArray := prog_11_method_28_code
def yX9_wrong : MethodName := ⟨RX9, "wrong", "(III)I"⟩
abbrev cX9_book : ByteArray := prog_11_method_29_code
def yX9_book : MethodName := ⟨RX9, "book", "(III)I"⟩
abbrev cX9_grants : ByteArray := prog_11_method_30_code
def yX9_grants : MethodName := ⟨RX9, "grants", "(III)I"⟩
abbrev cX9_leaves : ByteArray := prog_11_method_31_code
def yX9_leaves : MethodName := ⟨RX9, "leaves", "(I)V"⟩
abbrev cX9_cancel : ByteArray := prog_11_method_32_code
def yX9_cancel : MethodName := ⟨RX9, "cancel", "(I)I"⟩
abbrev cX9_move : ByteArray := prog_11_method_33_code
def yX9_move : MethodName := ⟨RX9, "move", "(II)I"⟩
abbrev cX9_sick : ByteArray := prog_11_method_34_code
def yX9_sick : MethodName := ⟨RX9, "sick", "()I"⟩
abbrev cX9_repair : ByteArray := prog_11_method_35_code
def yX9_repair : MethodName := ⟨RX9, "repair", "()I"⟩
abbrev cX9_wish : ByteArray := prog_11_method_36_code
def yX9_wish : MethodName := ⟨RX9, "wish", "(III)I"⟩
abbrev cX9_unwish : ByteArray := prog_11_method_37_code
def yX9_unwish : MethodName := ⟨RX9, "unwish", "(I)I"⟩
abbrev cX9_draws : ByteArray := prog_11_method_38_code
def yX9_draws : MethodName := ⟨RX9, "draws", "(I)Z"⟩
abbrev cX9_aTick : ByteArray := prog_11_method_39_code
def yX9_aTick : MethodName := ⟨RX9, "aTick", "()I"⟩
abbrev cX9_pass : ByteArray := prog_11_method_40_code
def yX9_pass : MethodName := ⟨RX9, "pass", "(I)I"⟩
abbrev cX9_type : ByteArray := prog_11_method_41_code
def yX9_type : MethodName := ⟨RX9, "type", "(C)I"⟩
abbrev cX9_clearText : ByteArray := prog_11_method_42_code
def yX9_clearText : MethodName := ⟨RX9, "clearText", "()I"⟩
abbrev cX9_isDigit : ByteArray := prog_11_method_43_code
def yX9_isDigit : MethodName := ⟨RX9, "isDigit", "()Z"⟩
abbrev cX9_takes : ByteArray := prog_11_method_44_code
def yX9_takes : MethodName := ⟨RX9, "takes", "(I)Z"⟩
abbrev cX9_takesNumber : ByteArray := prog_11_method_45_code
def yX9_takesNumber : MethodName := ⟨RX9, "takesNumber", "(I)Z"⟩
abbrev cX9_takesBooking : ByteArray := prog_11_method_46_code
def yX9_takesBooking : MethodName := ⟨RX9, "takesBooking", "()Z"⟩
abbrev cX9_bookingsOfText : ByteArray := prog_11_method_47_code
def yX9_bookingsOfText : MethodName := ⟨RX9, "bookingsOfText", "()I"⟩
abbrev cX9_bookAll : ByteArray := prog_11_method_48_code
def yX9_bookAll : MethodName := ⟨RX9, "bookAll", "()I"⟩
abbrev cX9_goes : ByteArray := prog_11_method_49_code
def yX9_goes : MethodName := ⟨RX9, "goes", "()V"⟩
abbrev cX9_comes : ByteArray := prog_11_method_50_code
def yX9_comes : MethodName := ⟨RX9, "comes", "()V"⟩
abbrev cX9_trades : ByteArray := prog_11_method_51_code
def yX9_trades : MethodName := ⟨RX9, "trades", "()V"⟩
abbrev cX9_undo : ByteArray := prog_11_method_52_code
def yX9_undo : MethodName := ⟨RX9, "undo", "()I"⟩
abbrev cX9_keep : ByteArray := prog_11_method_53_code
def yX9_keep : MethodName := ⟨RX9, "keep", "()I"⟩
abbrev cX9_restore : ByteArray := prog_11_method_54_code
def yX9_restore : MethodName := ⟨RX9, "restore", "()I"⟩
abbrev cX9_bookings : ByteArray := prog_11_method_55_code
def yX9_bookings : MethodName := ⟨RX9, "bookings", "(IIII)I"⟩
abbrev cX9_recipe : ByteArray := prog_11_method_56_code
def yX9_recipe : MethodName := ⟨RX9, "recipe", "(II)I"⟩
abbrev cX9_robot : ByteArray := prog_11_method_57_code
def yX9_robot : MethodName := ⟨RX9, "robot", "(II)I"⟩
abbrev cX9_booking : ByteArray := prog_11_method_58_code
def yX9_booking : MethodName := ⟨RX9, "booking", "(II)I"⟩
abbrev cX9_wishTold : ByteArray := prog_11_method_59_code
def yX9_wishTold : MethodName := ⟨RX9, "wishTold", "(II)I"⟩
abbrev cX9_pressureIn : ByteArray := prog_11_method_60_code
def yX9_pressureIn : MethodName := ⟨RX9, "pressureIn", "(I)I"⟩
abbrev cX9_lowestIn : ByteArray := prog_11_method_61_code
def yX9_lowestIn : MethodName := ⟨RX9, "lowestIn", "(I)I"⟩
abbrev cX9_why : ByteArray := prog_11_method_62_code
def yX9_why : MethodName := ⟨RX9, "why", "(IIII)I"⟩
abbrev cX9_earliest : ByteArray := prog_11_method_63_code
def yX9_earliest : MethodName := ⟨RX9, "earliest", "(III)I"⟩
abbrev cX9_count : ByteArray := prog_11_method_64_code
def yX9_count : MethodName := ⟨RX9, "count", "(I)I"⟩
def RJ9 : String := "java/lang/Math"
def RJ10 : String := "java/lang/System"
def RL : String := "BoilerBookLaw"
abbrev cL_law : ByteArray := code
def yL_law : MethodName := ⟨RL, "law", "([I)Z"⟩
end
section
/-! BASE: one memory M (object number, place) for all objects of class and reference; the world as a list over the object numbers -/
abbrev Mem : Type := Nat → Nat → Int32
def mset (M : Mem) (i : Nat) (f : Nat → Int32) : Mem := fun a => if a = i then f else M a
def mup (M : Mem) (i j : Nat) (v : Int32) : Mem := mset M i (upd (M i) j v)
abbrev Ans : Type := Option (Int32 × Mem)
abbrev Cy : Type := va_G × (Nat → Nat) × (Nat → ClassId)
def NWc : Nat := 154
def sI (k j : Nat) : Nat := 16 * k + j
def cI (c j : Nat) : Nat := 112 + 10 * c + j
def CL : List vw_C := [(RX0, TX0, 6), (RX1, TX1, 17), (RX2, TX2, 2), (RX3, TX3, 4), (RX4, TX4, 5), (RX5, TX5, 10), (RX6, TX6, 7), (RX7, TX7, 4), (RX8, TX8, 9), (RX9, TX9, 24)]
def TT : List Cond := lw_tbl.filter goodWord
theorem TT_good : GoodIn TT TT := fun w hw => ⟨hw, good_of_word (List.mem_filter.mp hw).2⟩
theorem tt_mem {w : Cond} (i : Nat) (h : tables_1[i]? = some w) (hg : goodWord w = true) : w ∈ TT := List.mem_filter.mpr ⟨List.mem_append_right _ (List.mem_of_getElem? h), hg⟩
theorem tt_sel {q : MethodName × Nat} (j : Nat) (h : lw_privs[j]? = some q) : Cond.selects q.1.cls q.1 q.1 ∈ TT := List.mem_filter.mpr ⟨List.mem_append_left _ (List.mem_map.mpr ⟨q, List.mem_of_getElem? h, rfl⟩), rfl⟩
def stE (y : Cy) (k j : Nat) (m : Nat → Int32) : va_E := match j with
  | 0 => .inr (5, [.int (m 0), .int (m 1), .int (m 2), .int (m 3), .int (m 4), .int (m 5), .int (m 6), .ref (y.2.1 (sI k 1)), .ref (y.2.1 (sI k 6)), .ref (y.2.1 (sI k 12))])
  | 1 => .inr (4, [.int (m 0), .ref (y.2.1 (sI k 2)), .ref (y.2.1 (sI k 3)), .ref (y.2.1 (sI k 4)), .ref (y.2.1 (sI k 5))])
  | 2 => .inl (y.2.2 0, (8, .inl m))
  | 3 => .inl (y.2.2 0, (8, .inl m))
  | 4 => .inl (y.2.2 0, (8, .inl m))
  | 5 => .inl (y.2.2 0, (8, .inl m))
  | 6 => .inr (0, [.int (m 0), .ref (y.2.1 (sI k 7)), .ref (y.2.1 (sI k 8)), .ref (y.2.1 (sI k 9)), .ref (y.2.1 (sI k 10)), .ref (y.2.1 (sI k 11))])
  | 12 => .inr (7, [.int (m 0), .ref (y.2.1 (sI k 13)), .ref (y.2.1 (sI k 14)), .ref (y.2.1 (sI k 15))])
  | 13 => .inl (y.2.2 0, (8, .inl m))
  | 14 => .inl (y.2.2 0, (8, .inl m))
  | 15 => .inl (y.2.2 0, (8, .inl m))
  | _ => .inl (y.2.2 0, (60, .inl m))
def coE (y : Cy) (c j : Nat) (m : Nat → Int32) : va_E := match j with
  | 0 => .inr (1, [.int (m 0), .int (m 1), .int (m 2), .int (m 3), .int (m 4), .int (m 5), .int (m 6), .int (m 7), .ref (y.2.1 (cI c 1)), .ref (y.2.1 (cI c 2)), .ref (y.2.1 (cI c 3)), .ref (y.2.1 (cI c 4)), .ref (y.2.1 (cI c 5)), .ref (y.2.1 (cI c 6)), .ref (y.2.1 (cI c 7)), .ref (y.2.1 (cI c 8)), .ref (y.2.1 (cI c 9))])
  | _ => .inl (y.2.2 0, (61, .inl m))
def mlE (y : Cy) (i : Nat) (m : Nat → Int32) : va_E := match i with
  | 132 => .inr (3, [.ref (y.2.1 (cI 1 0)), .ref (y.2.1 133), .int (m 2), .int (m 3)])
  | 133 => .inl (y.2.2 1, (60, .inl m))
  | 134 => .inr (2, [.ref (y.2.1 135), .int (m 1)])
  | 135 => .inl (y.2.2 3, (4, .inr (.inr (.inr (.inr (fun j => some (y.2.1 (sI (m j).toNatClampNeg 0))))))))
  | 136 => .inr (6, [.ref (y.2.1 137), .int (m 1), .int (m 2), .ref (y.2.1 138), .ref (y.2.1 139), .ref (y.2.1 140), .int (m 6)])
  | 137 => .inl (y.2.2 2, (60, .inl m))
  | 138 => .inl (y.2.2 0, (10, .inl m))
  | 139 => .inl (y.2.2 0, (10, .inl m))
  | 140 => .inl (y.2.2 0, (10, .inl m))
  | 141 => .inr (8, [.ref (y.2.1 (sI 0 0)), .ref (y.2.1 (sI 1 0)), .ref (y.2.1 (sI 2 0)), .int (m 3), .ref (y.2.1 134), .ref (y.2.1 136), .ref (y.2.1 (cI 0 0)), .ref (y.2.1 132), .ref (y.2.1 142)])
  | 142 => .inl (y.2.2 1, (60, .inl m))
  | 143 => .inr (9, [.ref (y.2.1 144), .ref (y.2.1 145), .int (m 2), .ref (y.2.1 146), .int (m 4), .ref (y.2.1 147), .ref (y.2.1 148), .ref (y.2.1 149), .ref (y.2.1 150), .ref (y.2.1 151), .int (m 10), .int (m 11), .int (m 12), .int (m 13), .int (m 14), .int (m 15), .int (m 16), .ref (y.2.1 152), .int (m 18), .ref (y.2.1 153), .int (m 20), .int (m 21), .int (m 22), .int (m 23)])
  | 144 => .inl (y.2.2 0, (366, .inl m))
  | 145 => .inl (y.2.2 0, (1464, .inl m))
  | 146 => .inl (y.2.2 0, (366, .inl m))
  | 147 => .inl (y.2.2 0, (366, .inl m))
  | 148 => .inl (y.2.2 0, (61, .inl m))
  | 149 => .inl (y.2.2 0, (61, .inl m))
  | 150 => .inl (y.2.2 0, (61, .inl m))
  | 151 => .inl (y.2.2 0, (61, .inl m))
  | 152 => .inl (y.2.2 1, (60, .inl m))
  | 153 => .inl (y.2.2 2, (60, .inl m))
  | _ => .inl (y.2.2 0, (0, .inl m))
def ent (y : Cy) (i : Nat) (m : Nat → Int32) : va_E := if i < 112 then stE y (i / 16) (i % 16) m else if i < 132 then coE y ((i - 112) / 10) ((i - 112) % 10) m else mlE y i m
theorem ent_s {y : Cy} {k : Nat} (hk : k < 7) (j : Nat) (hj : j < 16) : ent y (sI k j) = stE y k j := by
  funext m
  unfold ent sI
  rw [if_pos (by omega), show (16 * k + j) / 16 = k by omega, show (16 * k + j) % 16 = j by omega]
theorem ent_c {y : Cy} {c : Nat} (hc : c < 2) (j : Nat) (hj : j < 10) : ent y (cI c j) = coE y c j := by
  funext m
  unfold ent cI
  rw [if_neg (by omega), if_pos (by omega), show (112 + 10 * c + j - 112) / 10 = c by omega, show (112 + 10 * c + j - 112) % 10 = j by omega]
theorem ent_m {y : Cy} {i : Nat} (h : 132 ≤ i) : ent y i = mlE y i := by
  funext m
  unfold ent
  rw [if_neg (by omega), if_neg (by omega)]
theorem ids_s {k : Nat} (hk : k < 7) (j : Nat) (hj : j < 16) : sI k j < NWc := by unfold sI NWc; omega
theorem ids_c {c : Nat} (hc : c < 2) (j : Nat) (hj : j < 10) : cI c j < NWc := by unfold cI NWc; omega
def wl (y : Cy) (M : Mem) : va_W := (List.range NWc).map (fun i => (y.2.1 i, ent y i (M i)))
theorem wl_get {y : Cy} {M : Mem} {i : Nat} (h : i < NWc) : (wl y M)[i]? = some (y.2.1 i, ent y i (M i)) := by
  unfold wl
  rw [List.getElem?_map, List.getElem?_range h]
  rfl
theorem wl_set {y : Cy} {M : Mem} {i : Nat} (h : i < NWc) (f : Nat → Int32) : (wl y M).set i (y.2.1 i, ent y i f) = wl y (mset M i f) := by
  apply List.ext_getElem?
  intro n
  by_cases hn : n = i
  · subst hn
    rw [List.getElem?_set_self (by unfold wl; rw [List.length_map, List.length_range]; exact h), wl_get h]
    simp [mset]
  · rw [List.getElem?_set_ne (Ne.symm hn)]
    by_cases hl : n < NWc
    · rw [wl_get hl, wl_get hl]
      simp [mset, hn]
    · unfold wl
      rw [List.getElem?_eq_none (by simp; omega), List.getElem?_eq_none (by simp; omega)]
def AA (y : Cy) : Nat → Prop := fun q => ∃ i, i < NWc ∧ q = y.2.1 i
def Inj (y : Cy) : Prop := ∀ i j, i < NWc → j < NWc → y.2.1 i = y.2.1 j → i = j
theorem wl_inv {y : Cy} {M : Mem} {k : Nat} {q : Nat × va_E} (h : (wl y M)[k]? = some q) : k < NWc ∧ q = (y.2.1 k, ent y k (M k)) := by
  have hk : k < NWc := by
    have := (List.getElem?_eq_some_iff.mp h).1
    unfold wl at this
    rw [List.length_map, List.length_range] at this
    exact this
  rw [wl_get hk] at h
  exact ⟨hk, (Option.some.inj h).symm⟩
theorem wl_D {y : Cy} (hy : Inj y) {A : Nat → Prop} (hA : ∀ q, AA y q → A q) (M : Mem) : va_D A (wl y M) := by
  refine ⟨fun i j p q hi hj hpq => ?_, fun k q hk => ?_⟩
  · obtain ⟨h1, rfl⟩ := wl_inv hi
    obtain ⟨h2, rfl⟩ := wl_inv hj
    exact hy i j h1 h2 hpq
  · obtain ⟨h1, rfl⟩ := wl_inv hk
    exact hA _ ⟨k, h1, rfl⟩
def tyl (y : Cy) : List (ClassId × FieldType) := [(y.2.2 0, .int), (y.2.2 1, .boolean), (y.2.2 2, .char), (y.2.2 3, .object "BoilerBook$State")]
/-- where a method stands: machine, launch, env, room, state, method, arguments, frames below, its method and code; new cells and slots so far, locals; what may be written, and what the end must be -/
abbrev Cx : Type := (Program × Launch × Env × Room × State) × (MethodId × Array Value × List Frame × Method × Code) × (Nat × Nat × Nat × (Nat → Prop) × (Int32 → Mem → State → Prop))
def WW (x : Cx) (H : Heap) (locs : List Loc) (Q : State → Prop) (g : JFrame) : Prop := W x.1.1 x.1.2.1 x.1.2.2.1 x.1.2.2.2.1 x.1.2.2.2.2 x.2.1.1 x.2.1.2.1 x.2.1.2.2.1 x.2.1.2.2.2.1 x.2.1.2.2.2.2 H locs x.2.2.1 x.2.2.2.1 Q g
def Ok (x : Cx) (y : Cy) (cc : ByteArray) (own : String) : Prop :=
  x.1.1.tables.exec = Jvm.exec ∧ x.2.1.2.2.2.2.code = cc ∧ x.2.1.2.2.2.2.maxLocals = x.2.2.2.2.1 ∧ x.1.2.2.2.2.vm.findClass own = some x.2.1.1.cls ∧ (∀ w ∈ TT, w.before x.2.1.2.1 x.1.2.2.2.2 = true) ∧ va_K y.1 CL (tyl y) x.1.2.2.2.2 ∧ Inj y ∧ (∀ q, AA y q → x.2.2.2.2.2.1 q) ∧ x.2.2.1 ≤ x.1.2.2.2.1.cells ∧ x.2.2.2.1 ≤ x.1.2.2.2.1.slots
def G (x : Cx) (y : Cy) (pc : Nat) (lv : List (Nat × Value)) (st : List Value) (M : Mem) (o : Ans) : Prop :=
  ∀ r M', o = some (r, M') → ∀ (H : Heap) (locs : List Loc) (ls : Array Slot), va_P y.1 CL (wl y M) H → va_S x.2.2.2.2.2.1 x.1.2.2.2.2.heap H locs → lv_has ls x.2.2.2.2.1 lv → WW x H locs (x.2.2.2.2.2.2 r M') (F0 x.2.1.1 pc ls st)
theorem G_none {x : Cx} {y : Cy} {pc : Nat} {lv : List (Nat × Value)} {st : List Value} {M : Mem} : G x y pc lv st M none := fun _ _ h => by cases h
def bnd {α : Type} (a : α) (k : α → Ans) : Ans := k a
def bd (o : Ans) (k : Int32 → Mem → Ans) : Ans := match o with
  | none => none
  | some q => k q.1 q.2
def chk (i : Int32) (n : Nat) (o : Ans) : Ans := if i < 0 ∨ n ≤ i.toNatClampNeg then none else o
def stk (v : Int32) (k : Nat → Ans) : Ans := if v.toNatClampNeg < 7 then k v.toNatClampNeg else none
def nar (ty : FieldType) (v : Int32) (o : Ans) : Ans := if narrow ty (.int v) = .int v then o else none
theorem G_iadd {x : Cx} {y : Cy} {cc : ByteArray} {own : String} (h : Ok x y cc own) {pc : Nat} {lv : List (Nat × Value)} {st : List Value} {M : Mem} {o : Ans} {a b : Int32} (hd : decode cc pc = .ok (.iadd, 1)) (kk : G x y (pc + 1) lv (.int (a + b) :: st) M o) : G x y pc lv (.int b :: .int a :: st) M o := by
  intro r M' ho H locs ls hP hS hl
  exact lv_iadd h.1 h.2.1 hd  (kk r M' ho H locs ls hP hS hl)
theorem G_isub {x : Cx} {y : Cy} {cc : ByteArray} {own : String} (h : Ok x y cc own) {pc : Nat} {lv : List (Nat × Value)} {st : List Value} {M : Mem} {o : Ans} {a b : Int32} (hd : decode cc pc = .ok (.isub, 1)) (kk : G x y (pc + 1) lv (.int (a - b) :: st) M o) : G x y pc lv (.int b :: .int a :: st) M o := by
  intro r M' ho H locs ls hP hS hl
  exact lv_isub h.1 h.2.1 hd  (kk r M' ho H locs ls hP hS hl)
theorem G_imul {x : Cx} {y : Cy} {cc : ByteArray} {own : String} (h : Ok x y cc own) {pc : Nat} {lv : List (Nat × Value)} {st : List Value} {M : Mem} {o : Ans} {a b : Int32} (hd : decode cc pc = .ok (.imul, 1)) (kk : G x y (pc + 1) lv (.int (a * b) :: st) M o) : G x y pc lv (.int b :: .int a :: st) M o := by
  intro r M' ho H locs ls hP hS hl
  exact lv_imul h.1 h.2.1 hd  (kk r M' ho H locs ls hP hS hl)
theorem G_iand {x : Cx} {y : Cy} {cc : ByteArray} {own : String} (h : Ok x y cc own) {pc : Nat} {lv : List (Nat × Value)} {st : List Value} {M : Mem} {o : Ans} {a b : Int32} (hd : decode cc pc = .ok (.iand, 1)) (kk : G x y (pc + 1) lv (.int (a &&& b) :: st) M o) : G x y pc lv (.int b :: .int a :: st) M o := by
  intro r M' ho H locs ls hP hS hl
  exact lv_iand h.1 h.2.1 hd  (kk r M' ho H locs ls hP hS hl)
theorem G_iconst {x : Cx} {y : Cy} {cc : ByteArray} {own : String} (h : Ok x y cc own) {pc : Nat} {lv : List (Nat × Value)} {st : List Value} {M : Mem} {o : Ans} {n : Int} {v : Int32} (hd : decode cc pc = .ok (.iconst n, 1)) (hv : Int32.ofInt n = v) (kk : G x y (pc + 1) lv (.int v :: st) M o) : G x y pc lv st M o := by
  intro r M' ho H locs ls hP hS hl
  exact lv_iconst h.1 h.2.1 hd hv (kk r M' ho H locs ls hP hS hl)
theorem G_bipush {x : Cx} {y : Cy} {cc : ByteArray} {own : String} (h : Ok x y cc own) {pc : Nat} {lv : List (Nat × Value)} {st : List Value} {M : Mem} {o : Ans} {n : Int} {v : Int32} (hd : decode cc pc = .ok (.bipush n, 2)) (hv : (Int8.ofInt n).toInt32 = v) (kk : G x y (pc + 2) lv (.int v :: st) M o) : G x y pc lv st M o := by
  intro r M' ho H locs ls hP hS hl
  exact lv_bipush h.1 h.2.1 hd hv (kk r M' ho H locs ls hP hS hl)
theorem G_sipush {x : Cx} {y : Cy} {cc : ByteArray} {own : String} (h : Ok x y cc own) {pc : Nat} {lv : List (Nat × Value)} {st : List Value} {M : Mem} {o : Ans} {n : Int} {v : Int32} (hd : decode cc pc = .ok (.sipush n, 3)) (hv : (Int16.ofInt n).toInt32 = v) (kk : G x y (pc + 3) lv (.int v :: st) M o) : G x y pc lv st M o := by
  intro r M' ho H locs ls hP hS hl
  exact lv_sipush h.1 h.2.1 hd hv (kk r M' ho H locs ls hP hS hl)
theorem G_i2c {x : Cx} {y : Cy} {cc : ByteArray} {own : String} (h : Ok x y cc own) {pc : Nat} {lv : List (Nat × Value)} {st : List Value} {M : Mem} {o : Ans} {a : Int32} (hd : decode cc pc = .ok (.i2c, 1)) (kk : G x y (pc + 1) lv (.int ((a.toUInt32 % 65536).toInt32) :: st) M o) : G x y pc lv (.int a :: st) M o := by
  intro r M' ho H locs ls hP hS hl
  exact lv_i2c h.1 h.2.1 hd rfl (kk r M' ho H locs ls hP hS hl)
theorem G_dup {x : Cx} {y : Cy} {cc : ByteArray} {own : String} (h : Ok x y cc own) {pc : Nat} {lv : List (Nat × Value)} {st : List Value} {M : Mem} {o : Ans} {v : Value} (hd : decode cc pc = .ok (.dup, 1)) (hv : v.category = 1) (kk : G x y (pc + 1) lv (v :: v :: st) M o) : G x y pc lv (v :: st) M o := by
  intro r M' ho H locs ls hP hS hl
  exact lv_dup h.1 h.2.1 hd hv (kk r M' ho H locs ls hP hS hl)
theorem G_pop {x : Cx} {y : Cy} {cc : ByteArray} {own : String} (h : Ok x y cc own) {pc : Nat} {lv : List (Nat × Value)} {st : List Value} {M : Mem} {o : Ans} {v : Value} (hd : decode cc pc = .ok (.pop, 1)) (hv : v.category = 1) (kk : G x y (pc + 1) lv st M o) : G x y pc lv (v :: st) M o := by
  intro r M' ho H locs ls hP hS hl
  exact lv_pop h.1 h.2.1 hd hv (kk r M' ho H locs ls hP hS hl)
theorem G_dup2 {x : Cx} {y : Cy} {cc : ByteArray} {own : String} (h : Ok x y cc own) {pc : Nat} {lv : List (Nat × Value)} {st : List Value} {M : Mem} {o : Ans} {v w : Value} (hd : decode cc pc = .ok (.dup2, 1)) (hv : v.category = 1) (hw : w.category = 1) (kk : G x y (pc + 1) lv (v :: w :: v :: w :: st) M o) : G x y pc lv (v :: w :: st) M o := by
  intro r M' ho H locs ls hP hS hl
  exact lv_dup2_11 h.1 h.2.1 hd hv hw (kk r M' ho H locs ls hP hS hl)
theorem G_ldc {x : Cx} {y : Cy} {cc : ByteArray} {own : String} (h : Ok x y cc own) {pc : Nat} {lv : List (Nat × Value)} {st : List Value} {M : Mem} {o : Ans} {n : Nat} {v : Int32} (hd : decode cc pc = .ok (.ldc n, 2)) (hw : Cond.constant own n v ∈ TT) (kk : G x y (pc + 2) lv (.int v :: st) M o) : G x y pc lv st M o := by
  intro r M' ho H locs ls hP hS hl
  exact lv_ldc h.1 h.2.1 h.2.2.2.1 (h.2.2.2.2.1 _ hw) hd (kk r M' ho H locs ls hP hS hl)
theorem G_goto {x : Cx} {y : Cy} {cc : ByteArray} {own : String} (h : Ok x y cc own) {pc : Nat} {lv : List (Nat × Value)} {st : List Value} {M : Mem} {o : Ans} {off : Int} {tgt : Nat} (hd : decode cc pc = .ok (.goto off, 3)) (ht : (pc : Int) + off = (tgt : Int)) (kk : G x y tgt lv st M o) : G x y pc lv st M o := by
  intro r M' ho H locs ls hP hS hl
  exact lv_goto h.1 h.2.1 hd ht (kk r M' ho H locs ls hP hS hl)
theorem G_ifnull {x : Cx} {y : Cy} {cc : ByteArray} {own : String} (h : Ok x y cc own) {pc : Nat} {lv : List (Nat × Value)} {st : List Value} {M : Mem} {o : Ans} {q : Nat} {off : Int} (hd : decode cc pc = .ok (.ifnull off, 3)) (kk : G x y (pc + 3) lv st M o) : G x y pc lv (.ref q :: st) M o := by
  intro r M' ho H locs ls hP hS hl
  exact lv_ifnull h.1 h.2.1 hd (kk r M' ho H locs ls hP hS hl)
theorem G_iload_n {x : Cx} {y : Cy} {cc : ByteArray} {own : String} (h : Ok x y cc own) {pc : Nat} {lv : List (Nat × Value)} {st : List Value} {M : Mem} {o : Ans} {k : Fin 4} {i : Nat} {v : Int32} (hd : decode cc pc = .ok (.iload_n k, 1)) (hi : (k : Nat) = i) (j : Nat) (hj : lv[j]? = some (i, .int v)) (kk : G x y (pc + 1) lv (.int v :: st) M o) : G x y pc lv st M o := by
  intro r M' ho H locs ls hP hS hl
  exact lv_iload_n h.1 h.2.1 hd hi (lv_at hl j hj) (kk r M' ho H locs ls hP hS hl)
theorem G_iload {x : Cx} {y : Cy} {cc : ByteArray} {own : String} (h : Ok x y cc own) {pc : Nat} {lv : List (Nat × Value)} {st : List Value} {M : Mem} {o : Ans} {i : Nat} {v : Int32} (hd : decode cc pc = .ok (.iload i, 2)) (j : Nat) (hj : lv[j]? = some (i, .int v)) (kk : G x y (pc + 2) lv (.int v :: st) M o) : G x y pc lv st M o := by
  intro r M' ho H locs ls hP hS hl
  exact lv_iload h.1 h.2.1 hd (lv_at hl j hj) (kk r M' ho H locs ls hP hS hl)
theorem G_istore_n {x : Cx} {y : Cy} {cc : ByteArray} {own : String} (h : Ok x y cc own) {pc : Nat} {lv : List (Nat × Value)} {st : List Value} {M : Mem} {o : Ans} {k : Fin 4} {i nL : Nat} {v : Int32} (hL : x.2.2.2.2.1 = nL) (lv' : List (Nat × Value)) (hd : decode cc pc = .ok (.istore_n k, 1)) (hi : (k : Nat) = i) (hn : i < nL) (hlv : (i, Value.int v) :: lv.filter (fun q => !(q.1 == i) && !(q.1 + 1 == i && q.2.category == 2)) = lv') (kk : G x y (pc + 1) lv' st M o) : G x y pc lv (.int v :: st) M o := by
  intro r M' ho H locs ls hP hS hl
  exact lv_istore_n h.1 h.2.1 hd hi hl (by rw [hL]; exact hn) hlv (fun ls' hl' => kk r M' ho H locs ls' hP hS hl')
theorem G_istore {x : Cx} {y : Cy} {cc : ByteArray} {own : String} (h : Ok x y cc own) {pc : Nat} {lv : List (Nat × Value)} {st : List Value} {M : Mem} {o : Ans} {i nL : Nat} {v : Int32} (hL : x.2.2.2.2.1 = nL) (lv' : List (Nat × Value)) (hd : decode cc pc = .ok (.istore i, 2)) (hn : i < nL) (hlv : (i, Value.int v) :: lv.filter (fun q => !(q.1 == i) && !(q.1 + 1 == i && q.2.category == 2)) = lv') (kk : G x y (pc + 2) lv' st M o) : G x y pc lv (.int v :: st) M o := by
  intro r M' ho H locs ls hP hS hl
  exact lv_istore h.1 h.2.1 hd hl (by rw [hL]; exact hn) hlv (fun ls' hl' => kk r M' ho H locs ls' hP hS hl')
theorem G_aload_n {x : Cx} {y : Cy} {cc : ByteArray} {own : String} (h : Ok x y cc own) {pc : Nat} {lv : List (Nat × Value)} {st : List Value} {M : Mem} {o : Ans} {k : Fin 4} {i : Nat} {v : Nat} (hd : decode cc pc = .ok (.aload_n k, 1)) (hi : (k : Nat) = i) (j : Nat) (hj : lv[j]? = some (i, .ref v)) (kk : G x y (pc + 1) lv (.ref v :: st) M o) : G x y pc lv st M o := by
  intro r M' ho H locs ls hP hS hl
  exact lv_aload_n h.1 h.2.1 hd hi (lv_at hl j hj) (kk r M' ho H locs ls hP hS hl)
theorem G_aload {x : Cx} {y : Cy} {cc : ByteArray} {own : String} (h : Ok x y cc own) {pc : Nat} {lv : List (Nat × Value)} {st : List Value} {M : Mem} {o : Ans} {i : Nat} {v : Nat} (hd : decode cc pc = .ok (.aload i, 2)) (j : Nat) (hj : lv[j]? = some (i, .ref v)) (kk : G x y (pc + 2) lv (.ref v :: st) M o) : G x y pc lv st M o := by
  intro r M' ho H locs ls hP hS hl
  exact lv_aload h.1 h.2.1 hd (lv_at hl j hj) (kk r M' ho H locs ls hP hS hl)
theorem G_astore_n {x : Cx} {y : Cy} {cc : ByteArray} {own : String} (h : Ok x y cc own) {pc : Nat} {lv : List (Nat × Value)} {st : List Value} {M : Mem} {o : Ans} {k : Fin 4} {i nL : Nat} {v : Nat} (hL : x.2.2.2.2.1 = nL) (lv' : List (Nat × Value)) (hd : decode cc pc = .ok (.astore_n k, 1)) (hi : (k : Nat) = i) (hn : i < nL) (hlv : (i, Value.ref v) :: lv.filter (fun q => !(q.1 == i) && !(q.1 + 1 == i && q.2.category == 2)) = lv') (kk : G x y (pc + 1) lv' st M o) : G x y pc lv (.ref v :: st) M o := by
  intro r M' ho H locs ls hP hS hl
  exact lv_astore_n h.1 h.2.1 hd hi hl (by rw [hL]; exact hn) hlv (fun ls' hl' => kk r M' ho H locs ls' hP hS hl')
theorem G_astore {x : Cx} {y : Cy} {cc : ByteArray} {own : String} (h : Ok x y cc own) {pc : Nat} {lv : List (Nat × Value)} {st : List Value} {M : Mem} {o : Ans} {i nL : Nat} {v : Nat} (hL : x.2.2.2.2.1 = nL) (lv' : List (Nat × Value)) (hd : decode cc pc = .ok (.astore i, 2)) (hn : i < nL) (hlv : (i, Value.ref v) :: lv.filter (fun q => !(q.1 == i) && !(q.1 + 1 == i && q.2.category == 2)) = lv') (kk : G x y (pc + 2) lv' st M o) : G x y pc lv (.ref v :: st) M o := by
  intro r M' ho H locs ls hP hS hl
  exact lv_astore h.1 h.2.1 hd hl (by rw [hL]; exact hn) hlv (fun ls' hl' => kk r M' ho H locs ls' hP hS hl')
theorem G_iinc {x : Cx} {y : Cy} {cc : ByteArray} {own : String} (h : Ok x y cc own) {pc : Nat} {lv : List (Nat × Value)} {st : List Value} {M : Mem}  {i nL : Nat} {n : Int} {a v : Int32} {k : Int32 → Ans} (hL : x.2.2.2.2.1 = nL) (lv' : Int32 → List (Nat × Value)) (hd : decode cc pc = .ok (.iinc i n, 3)) (hn : i < nL) (j : Nat) (hj : lv[j]? = some (i, .int a)) (hv : a + Int32.ofInt n = v) (hlv : ∀ w, (i, Value.int w) :: lv.filter (fun q => !(q.1 == i) && !(q.1 + 1 == i && q.2.category == 2)) = lv' w) (kk : ∀ w, G x y (pc + 3) (lv' w) st M (k w)) : G x y pc lv st M (bnd v k) := by
  intro r M' ho H locs ls hP hS hl
  exact lv_iinc h.1 h.2.1 hd hl hj hv (by rw [hL]; exact hn) (hlv v) (fun ls' hl' => kk v r M' ho H locs ls' hP hS hl')
theorem G_icmp_eq {x : Cx} {y : Cy} {cc : ByteArray} {own : String} (h : Ok x y cc own) {pc : Nat} {lv : List (Nat × Value)} {st : List Value} {M : Mem} {ot of : Ans} {a b : Int32} {off : Int} {tgt : Nat} (hd : decode cc pc = .ok (.if_icmp .eq off, 3)) (ht : (pc : Int) + off = (tgt : Int)) (kt : G x y tgt lv st M ot) (kf : G x y (pc + 3) lv st M of) : G x y pc lv (.int b :: .int a :: st) M (if a = b then ot else of) := by
  intro r M' ho H locs ls hP hS hl
  exact lv_icmp_eq h.1 h.2.1 hd ht (fun c => kt r M' (by rw [if_pos c] at ho; exact ho) H locs ls hP hS hl) (fun c => kf r M' (by rw [if_neg c] at ho; exact ho) H locs ls hP hS hl)
theorem G_if_eq {x : Cx} {y : Cy} {cc : ByteArray} {own : String} (h : Ok x y cc own) {pc : Nat} {lv : List (Nat × Value)} {st : List Value} {M : Mem} {ot of : Ans} {a : Int32} {off : Int} {tgt : Nat} (hd : decode cc pc = .ok (.ifCond .eq off, 3)) (ht : (pc : Int) + off = (tgt : Int)) (kt : G x y tgt lv st M ot) (kf : G x y (pc + 3) lv st M of) : G x y pc lv (.int a :: st) M (if a = 0 then ot else of) := by
  intro r M' ho H locs ls hP hS hl
  exact lv_if_eq h.1 h.2.1 hd ht (fun c => kt r M' (by rw [if_pos c] at ho; exact ho) H locs ls hP hS hl) (fun c => kf r M' (by rw [if_neg c] at ho; exact ho) H locs ls hP hS hl)
theorem G_icmp_ne {x : Cx} {y : Cy} {cc : ByteArray} {own : String} (h : Ok x y cc own) {pc : Nat} {lv : List (Nat × Value)} {st : List Value} {M : Mem} {ot of : Ans} {a b : Int32} {off : Int} {tgt : Nat} (hd : decode cc pc = .ok (.if_icmp .ne off, 3)) (ht : (pc : Int) + off = (tgt : Int)) (kt : G x y tgt lv st M ot) (kf : G x y (pc + 3) lv st M of) : G x y pc lv (.int b :: .int a :: st) M (if a = b then of else ot) := by
  intro r M' ho H locs ls hP hS hl
  exact lv_icmp_ne h.1 h.2.1 hd ht (fun c => kt r M' (by rw [if_neg c] at ho; exact ho) H locs ls hP hS hl) (fun c => kf r M' (by rw [if_pos c] at ho; exact ho) H locs ls hP hS hl)
theorem G_if_ne {x : Cx} {y : Cy} {cc : ByteArray} {own : String} (h : Ok x y cc own) {pc : Nat} {lv : List (Nat × Value)} {st : List Value} {M : Mem} {ot of : Ans} {a : Int32} {off : Int} {tgt : Nat} (hd : decode cc pc = .ok (.ifCond .ne off, 3)) (ht : (pc : Int) + off = (tgt : Int)) (kt : G x y tgt lv st M ot) (kf : G x y (pc + 3) lv st M of) : G x y pc lv (.int a :: st) M (if a = 0 then of else ot) := by
  intro r M' ho H locs ls hP hS hl
  exact lv_if_ne h.1 h.2.1 hd ht (fun c => kt r M' (by rw [if_neg c] at ho; exact ho) H locs ls hP hS hl) (fun c => kf r M' (by rw [if_pos c] at ho; exact ho) H locs ls hP hS hl)
theorem G_icmp_lt {x : Cx} {y : Cy} {cc : ByteArray} {own : String} (h : Ok x y cc own) {pc : Nat} {lv : List (Nat × Value)} {st : List Value} {M : Mem} {ot of : Ans} {a b : Int32} {off : Int} {tgt : Nat} (hd : decode cc pc = .ok (.if_icmp .lt off, 3)) (ht : (pc : Int) + off = (tgt : Int)) (kt : G x y tgt lv st M ot) (kf : G x y (pc + 3) lv st M of) : G x y pc lv (.int b :: .int a :: st) M (if a < b then ot else of) := by
  intro r M' ho H locs ls hP hS hl
  exact lv_icmp_lt h.1 h.2.1 hd ht (fun c => kt r M' (by rw [if_pos c] at ho; exact ho) H locs ls hP hS hl) (fun c => kf r M' (by rw [if_neg c] at ho; exact ho) H locs ls hP hS hl)
theorem G_if_lt {x : Cx} {y : Cy} {cc : ByteArray} {own : String} (h : Ok x y cc own) {pc : Nat} {lv : List (Nat × Value)} {st : List Value} {M : Mem} {ot of : Ans} {a : Int32} {off : Int} {tgt : Nat} (hd : decode cc pc = .ok (.ifCond .lt off, 3)) (ht : (pc : Int) + off = (tgt : Int)) (kt : G x y tgt lv st M ot) (kf : G x y (pc + 3) lv st M of) : G x y pc lv (.int a :: st) M (if a < 0 then ot else of) := by
  intro r M' ho H locs ls hP hS hl
  exact lv_if_lt h.1 h.2.1 hd ht (fun c => kt r M' (by rw [if_pos c] at ho; exact ho) H locs ls hP hS hl) (fun c => kf r M' (by rw [if_neg c] at ho; exact ho) H locs ls hP hS hl)
theorem G_icmp_ge {x : Cx} {y : Cy} {cc : ByteArray} {own : String} (h : Ok x y cc own) {pc : Nat} {lv : List (Nat × Value)} {st : List Value} {M : Mem} {ot of : Ans} {a b : Int32} {off : Int} {tgt : Nat} (hd : decode cc pc = .ok (.if_icmp .ge off, 3)) (ht : (pc : Int) + off = (tgt : Int)) (kt : G x y tgt lv st M ot) (kf : G x y (pc + 3) lv st M of) : G x y pc lv (.int b :: .int a :: st) M (if b ≤ a then ot else of) := by
  intro r M' ho H locs ls hP hS hl
  exact lv_icmp_ge h.1 h.2.1 hd ht (fun c => kt r M' (by rw [if_pos c] at ho; exact ho) H locs ls hP hS hl) (fun c => kf r M' (by rw [if_neg c] at ho; exact ho) H locs ls hP hS hl)
theorem G_if_ge {x : Cx} {y : Cy} {cc : ByteArray} {own : String} (h : Ok x y cc own) {pc : Nat} {lv : List (Nat × Value)} {st : List Value} {M : Mem} {ot of : Ans} {a : Int32} {off : Int} {tgt : Nat} (hd : decode cc pc = .ok (.ifCond .ge off, 3)) (ht : (pc : Int) + off = (tgt : Int)) (kt : G x y tgt lv st M ot) (kf : G x y (pc + 3) lv st M of) : G x y pc lv (.int a :: st) M (if 0 ≤ a then ot else of) := by
  intro r M' ho H locs ls hP hS hl
  exact lv_if_ge h.1 h.2.1 hd ht (fun c => kt r M' (by rw [if_pos c] at ho; exact ho) H locs ls hP hS hl) (fun c => kf r M' (by rw [if_neg c] at ho; exact ho) H locs ls hP hS hl)
theorem G_icmp_gt {x : Cx} {y : Cy} {cc : ByteArray} {own : String} (h : Ok x y cc own) {pc : Nat} {lv : List (Nat × Value)} {st : List Value} {M : Mem} {ot of : Ans} {a b : Int32} {off : Int} {tgt : Nat} (hd : decode cc pc = .ok (.if_icmp .gt off, 3)) (ht : (pc : Int) + off = (tgt : Int)) (kt : G x y tgt lv st M ot) (kf : G x y (pc + 3) lv st M of) : G x y pc lv (.int b :: .int a :: st) M (if b < a then ot else of) := by
  intro r M' ho H locs ls hP hS hl
  exact lv_icmp_gt h.1 h.2.1 hd ht (fun c => kt r M' (by rw [if_pos c] at ho; exact ho) H locs ls hP hS hl) (fun c => kf r M' (by rw [if_neg c] at ho; exact ho) H locs ls hP hS hl)
theorem G_if_gt {x : Cx} {y : Cy} {cc : ByteArray} {own : String} (h : Ok x y cc own) {pc : Nat} {lv : List (Nat × Value)} {st : List Value} {M : Mem} {ot of : Ans} {a : Int32} {off : Int} {tgt : Nat} (hd : decode cc pc = .ok (.ifCond .gt off, 3)) (ht : (pc : Int) + off = (tgt : Int)) (kt : G x y tgt lv st M ot) (kf : G x y (pc + 3) lv st M of) : G x y pc lv (.int a :: st) M (if 0 < a then ot else of) := by
  intro r M' ho H locs ls hP hS hl
  exact lv_if_gt h.1 h.2.1 hd ht (fun c => kt r M' (by rw [if_pos c] at ho; exact ho) H locs ls hP hS hl) (fun c => kf r M' (by rw [if_neg c] at ho; exact ho) H locs ls hP hS hl)
theorem G_icmp_le {x : Cx} {y : Cy} {cc : ByteArray} {own : String} (h : Ok x y cc own) {pc : Nat} {lv : List (Nat × Value)} {st : List Value} {M : Mem} {ot of : Ans} {a b : Int32} {off : Int} {tgt : Nat} (hd : decode cc pc = .ok (.if_icmp .le off, 3)) (ht : (pc : Int) + off = (tgt : Int)) (kt : G x y tgt lv st M ot) (kf : G x y (pc + 3) lv st M of) : G x y pc lv (.int b :: .int a :: st) M (if a ≤ b then ot else of) := by
  intro r M' ho H locs ls hP hS hl
  exact lv_icmp_le h.1 h.2.1 hd ht (fun c => kt r M' (by rw [if_pos c] at ho; exact ho) H locs ls hP hS hl) (fun c => kf r M' (by rw [if_neg c] at ho; exact ho) H locs ls hP hS hl)
theorem G_if_le {x : Cx} {y : Cy} {cc : ByteArray} {own : String} (h : Ok x y cc own) {pc : Nat} {lv : List (Nat × Value)} {st : List Value} {M : Mem} {ot of : Ans} {a : Int32} {off : Int} {tgt : Nat} (hd : decode cc pc = .ok (.ifCond .le off, 3)) (ht : (pc : Int) + off = (tgt : Int)) (kt : G x y tgt lv st M ot) (kf : G x y (pc + 3) lv st M of) : G x y pc lv (.int a :: st) M (if a ≤ 0 then ot else of) := by
  intro r M' ho H locs ls hP hS hl
  exact lv_if_le h.1 h.2.1 hd ht (fun c => kt r M' (by rw [if_pos c] at ho; exact ho) H locs ls hP hS hl) (fun c => kf r M' (by rw [if_neg c] at ho; exact ho) H locs ls hP hS hl)
theorem G_top {x : Cx} {y : Cy} {pc : Nat} {lv : List (Nat × Value)} {st : List Value} {M : Mem} {a : Int32} {k : Int32 → Ans} (kk : ∀ v, G x y pc lv (.int v :: st) M (k v)) : G x y pc lv (.int a :: st) M (bnd a k) := kk a
theorem G_sub {x : Cx} {y : Cy} {pc : Nat} {lv lv' : List (Nat × Value)} {st : List Value} {M : Mem} {o : Ans} (ks : List Nat) (hk : lv_pick lv ks = lv') (kk : G x y pc lv' st M o) : G x y pc lv st M o := fun r M' ho H locs ls hP hS hl => kk r M' ho H locs ls hP hS (lv_sub hl ks hk)
/-- a field of a class, as a method of the class 'own' links it -/
def FL (own : String) (idx ci k : Nat) : Prop := ∃ (C : String) (T : u_T) (N : Nat), CL[ci]? = some (C, T, N) ∧ k < N ∧ (∀ w ∈ u_ws C T N, w ∈ TT) ∧ (T k).1 = C ∧ Cond.fieldLink own idx C (T k).2.1 (T k).2.2.1 ∈ TT
def FP (own : String) (idx ci k : Nat) (ty : FieldType) : Prop := ∃ (C : String) (T : u_T) (N : Nat) (t0 : Nat → FieldType), CL[ci]? = some (C, T, N) ∧ k < N ∧ (∀ w ∈ u_ws C T N, w ∈ TT) ∧ (T k).1 = C ∧ Cond.fieldLink own idx C (T k).2.1 (T k).2.2.1 ∈ TT ∧ (∀ k, k < N → parseFieldDescriptor (T k).2.2.1 = some (t0 k)) ∧ (∀ a, a < N → ∀ b, b < N → a ≠ b → (T a).2.1 ≠ (T b).2.1) ∧ (T k).2.2.2 = false ∧ parseFieldDescriptor (T k).2.2.1 = some ty
theorem G_get {x : Cx} {y : Cy} {cc : ByteArray} {own : String} (h : Ok x y cc own) {pc : Nat} {lv : List (Nat × Value)} {st : List Value} {M : Mem} {o : Ans} {i idx ci k : Nat} {fs : List Value} {v : Value} (hf : FL own idx ci k) (hi : i < NWc) (he : ent y i (M i) = .inr (ci, fs)) (hv : fs[k]? = some v) (hd : decode cc pc = .ok (.getfield idx, 3)) (kk : G x y (pc + 3) lv (v :: st) M o) : G x y pc lv (.ref (y.2.1 i) :: st) M o := by
  intro r M' ho H locs ls hP hS hl
  obtain ⟨C, T, N, hc, hk, hin, hC, hlink⟩ := hf
  obtain ⟨hx, hb, hml, hown, hts, hK, hy, hA, -⟩ := h
  exact va_get (D := y.1) (C := C) (T := T) (N := N) (ref := C) hx hb hts hin hown hK hP i (by rw [wl_get hi, he]) hc k hk (hts _ hlink) (fun z hz => by rw [hC] at hz; exact hz) hv hd (kk r M' ho H locs ls hP hS hl)
theorem G_put {x : Cx} {y : Cy} {cc : ByteArray} {own : String} (h : Ok x y cc own) {pc : Nat} {lv : List (Nat × Value)} {st : List Value} {M : Mem}  {i idx ci j : Nat} {ty : FieldType} {F : (Nat → Int32) → List Value} {v : Int32} {k : Mem → Ans} (hf : FP own idx ci j ty) (hi : i < NWc) (he : ∀ m, ent y i m = .inr (ci, F m)) (hF : ∀ m, F (upd m j v) = (F m).set j (.int v)) (hl0 : ∀ m, j < (F m).length) (hn : narrow ty (.int v) = .int v) (hfit : fits ty (.int v) = true) (hd : decode cc pc = .ok (.putfield idx, 3)) (kk : ∀ M1, G x y (pc + 3) lv st M1 (k M1)) : G x y pc lv (.int v :: .ref (y.2.1 i) :: st) M (bnd (mup M i j v) k) := by
  intro r M' ho H locs ls hP hS hl
  obtain ⟨C, T, N, t0, hc, hk, hin, hC, hlink, hty, hnm, hfin, hpd⟩ := hf
  obtain ⟨hx, hb, hml, hown, hts, hK, hy, hA, -⟩ := h
  refine va_put (D := y.1) (C := C) (T := T) (N := N) (ref := C) hx hb hts hin t0 hty hnm hown hK hP (wl_D hy hA M) hS i (by rw [wl_get hi, he]) hc j hk (hts _ hlink) (fun z hz => by rw [hC] at hz; exact hz) hfin hpd hn hfit (hl0 _) hd (fun H1 locs1 hP1 hD1 hS1 => ?_)
  rw [← hF (M i), ← he, wl_set hi] at hP1
  exact kk _ r M' ho H1 locs1 ls hP1 hS1 hl
theorem G_iald {x : Cx} {y : Cy} {cc : ByteArray} {own : String} (h : Ok x y cc own) {pc : Nat} {lv : List (Nat × Value)} {st : List Value} {M : Mem} {o : Ans} {i n : Nat} {ix : Int32} (hi : i < NWc) (he : ent y i (M i) = .inl (y.2.2 0, (n, .inl (M i)))) (hd : decode cc pc = .ok (.iaload, 1)) (kk : G x y (pc + 1) lv (.int (M i ix.toNatClampNeg) :: st) M o) : G x y pc lv (.int ix :: .ref (y.2.1 i) :: st) M (chk ix n o) := by
  intro r M' ho H locs ls hP hS hl
  obtain ⟨hx, hb, hml, hown, hts, hK, hy, hA, -⟩ := h
  by_cases hc : ix < 0 ∨ n ≤ ix.toNatClampNeg
  · unfold chk at ho
    rw [if_pos hc] at ho
    cases ho
  · unfold chk at ho
    rw [if_neg hc] at ho
    exact va_iald hx hb hK hP i 0 (by rw [wl_get hi, he]) rfl hc hd (kk r M' ho H locs ls hP hS hl)
theorem G_zald {x : Cx} {y : Cy} {cc : ByteArray} {own : String} (h : Ok x y cc own) {pc : Nat} {lv : List (Nat × Value)} {st : List Value} {M : Mem} {o : Ans} {i n : Nat} {ix : Int32} (hi : i < NWc) (he : ent y i (M i) = .inl (y.2.2 1, (n, .inl (M i)))) (hd : decode cc pc = .ok (.baload, 1)) (kk : G x y (pc + 1) lv (.int (M i ix.toNatClampNeg) :: st) M o) : G x y pc lv (.int ix :: .ref (y.2.1 i) :: st) M (chk ix n o) := by
  intro r M' ho H locs ls hP hS hl
  obtain ⟨hx, hb, hml, hown, hts, hK, hy, hA, -⟩ := h
  by_cases hc : ix < 0 ∨ n ≤ ix.toNatClampNeg
  · unfold chk at ho
    rw [if_pos hc] at ho
    cases ho
  · unfold chk at ho
    rw [if_neg hc] at ho
    exact va_zald hx hb hK hP i 1 (by rw [wl_get hi, he]) rfl hc hd (kk r M' ho H locs ls hP hS hl)
theorem G_cald {x : Cx} {y : Cy} {cc : ByteArray} {own : String} (h : Ok x y cc own) {pc : Nat} {lv : List (Nat × Value)} {st : List Value} {M : Mem} {o : Ans} {i n : Nat} {ix : Int32} (hi : i < NWc) (he : ent y i (M i) = .inl (y.2.2 2, (n, .inl (M i)))) (hd : decode cc pc = .ok (.caload, 1)) (kk : G x y (pc + 1) lv (.int (M i ix.toNatClampNeg) :: st) M o) : G x y pc lv (.int ix :: .ref (y.2.1 i) :: st) M (chk ix n o) := by
  intro r M' ho H locs ls hP hS hl
  obtain ⟨hx, hb, hml, hown, hts, hK, hy, hA, -⟩ := h
  by_cases hc : ix < 0 ∨ n ≤ ix.toNatClampNeg
  · unfold chk at ho
    rw [if_pos hc] at ho
    cases ho
  · unfold chk at ho
    rw [if_neg hc] at ho
    exact va_cald hx hb hK hP i 2 (by rw [wl_get hi, he]) rfl hc hd (kk r M' ho H locs ls hP hS hl)
theorem G_iast {x : Cx} {y : Cy} {cc : ByteArray} {own : String} (h : Ok x y cc own) {pc : Nat} {lv : List (Nat × Value)} {st : List Value} {M : Mem}  {i n : Nat} {ix v : Int32} {k : Mem → Ans} (hi : i < NWc) (he : ∀ m, ent y i m = .inl (y.2.2 0, (n, .inl m))) (hd : decode cc pc = .ok (.iastore, 1)) (kk : ∀ M1, G x y (pc + 1) lv st M1 (k M1)) : G x y pc lv (.int v :: .int ix :: .ref (y.2.1 i) :: st) M (chk ix n (bnd (mup M i ix.toNatClampNeg v) k)) := by
  intro r M' ho H locs ls hP hS hl
  obtain ⟨hx, hb, hml, hown, hts, hK, hy, hA, -⟩ := h
  by_cases hc : ix < 0 ∨ n ≤ ix.toNatClampNeg
  · unfold chk at ho
    rw [if_pos hc] at ho
    cases ho
  · unfold chk at ho
    rw [if_neg hc] at ho
    refine va_iast hx hb hK hP (wl_D hy hA M) hS i 0 (by rw [wl_get hi, he]) rfl hc hd (fun H1 locs1 hP1 hD1 hS1 => ?_)
    rw [← he, wl_set hi] at hP1
    exact kk _ r M' ho H1 locs1 ls hP1 hS1 hl
theorem G_zast {x : Cx} {y : Cy} {cc : ByteArray} {own : String} (h : Ok x y cc own) {pc : Nat} {lv : List (Nat × Value)} {st : List Value} {M : Mem}  {i n : Nat} {ix v : Int32} {k : Mem → Ans} (hi : i < NWc) (he : ∀ m, ent y i m = .inl (y.2.2 1, (n, .inl m))) (hd : decode cc pc = .ok (.bastore, 1)) (kk : ∀ M1, G x y (pc + 1) lv st M1 (k M1)) : G x y pc lv (.int v :: .int ix :: .ref (y.2.1 i) :: st) M (chk ix n (bnd (mup M i ix.toNatClampNeg (vp_nar .boolean v)) k)) := by
  intro r M' ho H locs ls hP hS hl
  obtain ⟨hx, hb, hml, hown, hts, hK, hy, hA, -⟩ := h
  by_cases hc : ix < 0 ∨ n ≤ ix.toNatClampNeg
  · unfold chk at ho
    rw [if_pos hc] at ho
    cases ho
  · unfold chk at ho
    rw [if_neg hc] at ho
    refine va_zast hx hb hK hP (wl_D hy hA M) hS i 1 (by rw [wl_get hi, he]) rfl hc hd (fun H1 locs1 hP1 hD1 hS1 => ?_)
    rw [← he, wl_set hi] at hP1
    exact kk _ r M' ho H1 locs1 ls hP1 hS1 hl
theorem G_cast {x : Cx} {y : Cy} {cc : ByteArray} {own : String} (h : Ok x y cc own) {pc : Nat} {lv : List (Nat × Value)} {st : List Value} {M : Mem}  {i n : Nat} {ix v : Int32} {k : Mem → Ans} (hi : i < NWc) (he : ∀ m, ent y i m = .inl (y.2.2 2, (n, .inl m))) (hd : decode cc pc = .ok (.castore, 1)) (kk : ∀ M1, G x y (pc + 1) lv st M1 (k M1)) : G x y pc lv (.int v :: .int ix :: .ref (y.2.1 i) :: st) M (chk ix n (bnd (mup M i ix.toNatClampNeg (vp_nar .char v)) k)) := by
  intro r M' ho H locs ls hP hS hl
  obtain ⟨hx, hb, hml, hown, hts, hK, hy, hA, -⟩ := h
  by_cases hc : ix < 0 ∨ n ≤ ix.toNatClampNeg
  · unfold chk at ho
    rw [if_pos hc] at ho
    cases ho
  · unfold chk at ho
    rw [if_neg hc] at ho
    refine va_cast hx hb hK hP (wl_D hy hA M) hS i 2 (by rw [wl_get hi, he]) rfl hc hd (fun H1 locs1 hP1 hD1 hS1 => ?_)
    rw [← he, wl_set hi] at hP1
    exact kk _ r M' ho H1 locs1 ls hP1 hS1 hl
theorem G_aald {x : Cx} {y : Cy} {cc : ByteArray} {own : String} (h : Ok x y cc own) {pc : Nat} {lv : List (Nat × Value)} {st : List Value} {M : Mem}  {ix : Int32} {k : Nat → Ans} (hd : decode cc pc = .ok (.aaload, 1)) (kk : ∀ q, q < 7 → G x y (pc + 1) lv (.ref (y.2.1 (sI q 0)) :: st) M (k q)) : G x y pc lv (.int ix :: .ref (y.2.1 135) :: st) M (chk ix 4 (stk (M 135 ix.toNatClampNeg) k)) := by
  intro r M' ho H locs ls hP hS hl
  obtain ⟨hx, hb, hml, hown, hts, hK, hy, hA, -⟩ := h
  have hi : 135 < NWc := by decide
  by_cases hc : ix < 0 ∨ 4 ≤ ix.toNatClampNeg
  · unfold chk at ho
    rw [if_pos hc] at ho
    cases ho
  · unfold chk at ho
    rw [if_neg hc] at ho
    unfold stk at ho
    by_cases h7 : (M 135 ix.toNatClampNeg).toNatClampNeg < 7
    · rw [if_pos h7] at ho
      exact va_aldq hx hb hK hP 135 3 (f := fun j => some (y.2.1 (sI (M 135 j).toNatClampNeg 0))) (by rw [wl_get hi, ent_m (by decide)]; rfl) rfl hc hd (kk _ h7 r M' ho H locs ls hP hS hl)
    · rw [if_neg h7] at ho
      cases ho
theorem G_aast {x : Cx} {y : Cy} {cc : ByteArray} {own : String} (h : Ok x y cc own) {pc : Nat} {lv : List (Nat × Value)} {st : List Value} {M : Mem}  {ix : Int32} {q : Nat} (hq : q < 7) {k : Mem → Ans} (hd : decode cc pc = .ok (.aastore, 1)) (kk : ∀ M1, G x y (pc + 1) lv st M1 (k M1)) : G x y pc lv (.ref (y.2.1 (sI q 0)) :: .int ix :: .ref (y.2.1 135) :: st) M (chk ix 4 (bnd (mup M 135 ix.toNatClampNeg (nI q)) k)) := by
  intro r M' ho H locs ls hP hS hl
  obtain ⟨hx, hb, hml, hown, hts, hK, hy, hA, -⟩ := h
  have hi : 135 < NWc := by decide
  by_cases hc : ix < 0 ∨ 4 ≤ ix.toNatClampNeg
  · unfold chk at ho
    rw [if_pos hc] at ho
    cases ho
  · unfold chk at ho
    rw [if_neg hc] at ho
    refine va_astq hx hb hK hP (wl_D hy hA M) hS 135 3 (sI q 0) 5 (r := (RX5, TX5, 10)) (f := fun j => some (y.2.1 (sI (M 135 j).toNatClampNeg 0))) (by rw [wl_get hi, ent_m (by decide)]; rfl) rfl (by rw [wl_get (ids_s hq 0 (by decide)), ent_s hq 0 (by decide)]; rfl) rfl hc hd (fun H1 locs1 hP1 hD1 hS1 => ?_)
    have e : (Sum.inl (y.2.2 3, (4, .inr (.inr (.inr (.inr (va_up (fun j => some (y.2.1 (sI (M 135 j).toNatClampNeg 0))) ix.toNatClampNeg (some (y.2.1 (sI q 0))))))))) : va_E) = ent y 135 (upd (M 135) ix.toNatClampNeg (nI q)) := by
      rw [ent_m (by decide)]
      show _ = (Sum.inl (y.2.2 3, (4, .inr (.inr (.inr (.inr (fun j => some (y.2.1 (sI (upd (M 135) ix.toNatClampNeg (nI q) j).toNatClampNeg 0)))))))) : va_E)
      congr 7
      funext j
      unfold va_up upd
      by_cases hj : j = ix.toNatClampNeg
      · rw [if_pos hj, if_pos hj, nI_clamp (by omega)]
      · rw [if_neg hj, if_neg hj]
    rw [e, wl_set hi] at hP1
    exact kk _ r M' ho H1 locs1 ls hP1 hS1 hl
def imin (a b : Int32) : Int32 := if b < a then b else a
def imax (a b : Int32) : Int32 := if a < b then b else a
def MMx (own : String) (idx : Nat) : Prop := Cond.methodLink own idx Lib.Math.max.name ∈ TT ∧ Cond.static Lib.Math.max.name ∈ TT ∧ Cond.initialized "java/lang/Math" ∈ TT ∧ Cond.code Lib.Math.max.name Lib.Math.max.code 2 (some .int) ∈ TT
def MMn (own : String) (idx : Nat) : Prop := Cond.methodLink own idx Lib.Math.min.name ∈ TT ∧ Cond.static Lib.Math.min.name ∈ TT ∧ Cond.initialized "java/lang/Math" ∈ TT ∧ Cond.code Lib.Math.min.name Lib.Math.min.code 2 (some .int) ∈ TT
def MCp (own : String) (idx : Nat) : Prop := Cond.methodLink own idx arraycopyName ∈ TT ∧ Cond.native arraycopyName ∈ TT ∧ Cond.static arraycopyName ∈ TT ∧ Cond.initialized "java/lang/System" ∈ TT
theorem G_mmax {x : Cx} {y : Cy} {cc : ByteArray} {own : String} (h : Ok x y cc own) {pc : Nat} {lv : List (Nat × Value)} {st : List Value} {M : Mem} {o : Ans} {idx : Nat} {a b : Int32} {rm : Room} (hR : x.1.2.2.2.1 = rm) (hm : MMx own idx) (hd : decode cc pc = .ok (.invokestatic idx, 3)) (h1 : 1 ≤ rm.frames) (h2 : (st.map fun v => v.category).sum + 13 ≤ rm.locals) (kk : G x y (pc + 3) lv (.int (imax a b) :: st) M o) : G x y pc lv (.int b :: .int a :: st) M o := by
  intro r M' ho H locs ls hP hS hl
  obtain ⟨hx, hb, hml, hown, hts, hK, hy, hA, hc, hs⟩ := h
  obtain ⟨m1, m2, m3, m4⟩ := hm
  exact va_mmax hx hb (hml.trans hl.1.symm) hown (hts _ m1) (hts _ m2) (hts _ m3) (hts _ m4) (by rw [hR]; exact h1) (by rw [hR]; exact h2) hc hs hd (kk r M' ho H locs ls hP hS hl)
theorem G_mmin {x : Cx} {y : Cy} {cc : ByteArray} {own : String} (h : Ok x y cc own) {pc : Nat} {lv : List (Nat × Value)} {st : List Value} {M : Mem} {o : Ans} {idx : Nat} {a b : Int32} {rm : Room} (hR : x.1.2.2.2.1 = rm) (hm : MMn own idx) (hd : decode cc pc = .ok (.invokestatic idx, 3)) (h1 : 1 ≤ rm.frames) (h2 : (st.map fun v => v.category).sum + 13 ≤ rm.locals) (kk : G x y (pc + 3) lv (.int (imin a b) :: st) M o) : G x y pc lv (.int b :: .int a :: st) M o := by
  intro r M' ho H locs ls hP hS hl
  obtain ⟨hx, hb, hml, hown, hts, hK, hy, hA, hc, hs⟩ := h
  obtain ⟨m1, m2, m3, m4⟩ := hm
  exact va_mmin hx hb (hml.trans hl.1.symm) hown (hts _ m1) (hts _ m2) (hts _ m3) (hts _ m4) (by rw [hR]; exact h1) (by rw [hR]; exact h2) hc hs hd (kk r M' ho H locs ls hP hS hl)
theorem G_copy {x : Cx} {y : Cy} {cc : ByteArray} {own : String} (h : Ok x y cc own) {pc : Nat} {lv : List (Nat × Value)} {st : List Value} {M : Mem}  {idx i0 i1 N : Nat} {n : Int32} {rm : Room} {k : Mem → Ans} (hR : x.1.2.2.2.1 = rm) (hm : MCp own idx) (h0 : i0 < NWc) (h1 : i1 < NWc) (e0 : ent y i0 (M i0) = .inl (y.2.2 0, (N, .inl (M i0)))) (e1 : ∀ m, ent y i1 m = .inl (y.2.2 0, (N, .inl m))) (hn0 : ¬ n < 0) (hn : n.toNatClampNeg = N) (hd : decode cc pc = .ok (.invokestatic idx, 3)) (hf : 1 ≤ rm.frames) (hlo : (st.map fun v => v.category).sum + (nativeFrameWords "java/lang/System" "arraycopy" 5 + 11) ≤ rm.locals) (kk : ∀ M1, G x y (pc + 3) lv st M1 (k M1)) : G x y pc lv (.int n :: .int 0 :: .ref (y.2.1 i1) :: .int 0 :: .ref (y.2.1 i0) :: st) M (bnd (mset M i1 (va_cpy (M i0) (M i1) 0 0 N)) k) := by
  intro r M' ho H locs ls hP hS hl
  obtain ⟨hx, hb, hml, hown, hts, hK, hy, hA, hc, hs⟩ := h
  obtain ⟨m1, m2, m3, m4⟩ := hm
  have z : (0 : Int32).toNatClampNeg = 0 := by decide
  refine va_copyi hx hb (hml.trans hl.1.symm) hown (hts _ m1) (hts _ m2) (hts _ m3) (hts _ m4) hK hP (wl_D hy hA M) hS i0 i1 0 0 (by rw [wl_get h0, e0]) (by rw [wl_get h1, e1]) rfl rfl rfl (by decide) (by decide) hn0 (by rw [z, hn]; omega) (by rw [z, hn]; omega) (fun _ _ => rfl) (by rw [hR]; exact hf) (by rw [hR]; exact hlo) hd (fun H1 locs1 hP1 hD1 hS1 => ?_)
  rw [← e1, wl_set h1, z, hn] at hP1
  exact kk _ r M' ho H1 locs1 ls hP1 hS1 hl
def Bw (y : Cy) (u : Mem) (t : State) : Prop := va_P y.1 CL (wl y u) t.heap
def Qp (y : Cy) (ret : Option FieldType) (r : Int32) (M' : Mem) : Array Value → State → Outcome → State → Prop := match ret with
  | none => va_Qv (fun u => u = M') (Bw y) (AA y)
  | some _ => va_Qi (fun r' u => r' = r ∧ u = M') (Bw y) (AA y)
def Pp (y : Cy) (args : List Value) (M : Mem) : Array Value → State → Prop := va_Pc args (fun U => va_P y.1 CL (wl y M) U.heap ∧ va_K y.1 CL (tyl y) U)
def CT (l : Launch) (y : Cy) (nm : MethodName) (cc : ByteArray) (maxL : Nat) (ret : Option FieldType) (rm : Room) (args : List Value) (M : Mem) (o : Ans) : Prop :=
  ∀ r M', o = some (r, M') → Met l nm (.code nm cc maxL ret :: TT) rm (Pp y args M) (Qp y ret r M') 0 0 (AA y)
def LkV (own : String) (idx : Nat) (nm : MethodName) (cc : ByteArray) (maxL : Nat) (ret : Option FieldType) (n : Nat) : Prop :=
  Cond.methodLink own idx nm ∈ TT ∧ Cond.instanceMethod nm ∈ TT ∧ Cond.selects nm.cls nm nm ∈ TT ∧ Cond.initialized nm.cls ∈ TT ∧ Cond.code nm cc maxL ret ∈ TT ∧ (nm.cls ≠ "java/lang/invoke/MethodHandle" ∧ nm.cls ≠ "java/lang/invoke/VarHandle" ∧ (parseMethodDescriptor nm.desc).map (fun d => d.parameters.length) = some n)
def LkS (own : String) (idx : Nat) (nm : MethodName) (cc : ByteArray) (maxL : Nat) (ret : Option FieldType) (n : Nat) : Prop :=
  Cond.methodLink own idx nm ∈ TT ∧ Cond.static nm ∈ TT ∧ nm.cls = own ∧ Cond.initialized own ∈ TT ∧ Cond.code nm cc maxL ret ∈ TT ∧ (nm.cls ≠ "java/lang/invoke/MethodHandle" ∧ nm.cls ≠ "java/lang/invoke/VarHandle" ∧ (parseMethodDescriptor nm.desc).map (fun d => d.parameters.length) = some n)
theorem LkV_good {own : String} {idx : Nat} {nm : MethodName} {cc : ByteArray} {maxL : Nat} {ret : Option FieldType} {n : Nat} (h : LkV own idx nm cc maxL ret n) : GoodIn TT (wsV own idx nm.cls nm (.code nm cc maxL ret :: TT)) := by
  obtain ⟨h1, h2, h3, h4, h5, -⟩ := h
  intro w hw
  refine TT_good w ?_
  simp only [wsV, List.cons_append, List.nil_append, List.mem_cons] at hw
  rcases hw with rfl | rfl | rfl | rfl | rfl | hw
  · exact h1
  · exact h2
  · exact h3
  · exact h4
  · exact h5
  · exact hw
theorem LkS_good {own : String} {idx : Nat} {nm : MethodName} {cc : ByteArray} {maxL : Nat} {ret : Option FieldType} {n : Nat} (h : LkS own idx nm cc maxL ret n) : GoodIn TT (wsS own idx nm (.code nm cc maxL ret :: TT)) := by
  obtain ⟨h1, h2, h3, h4, h5, -⟩ := h
  intro w hw
  refine TT_good w ?_
  simp only [wsS, List.cons_append, List.nil_append, List.mem_cons] at hw
  rcases hw with rfl | rfl | rfl | rfl | hw
  · exact h1
  · exact h2
  · exact h4
  · exact h5
  · exact hw
theorem Pp_blind {y : Cy} {args : List Value} {M : Mem} : FrameBlind (Pp y args M) := fun a U g mk q => ⟨q.1, q.2.1, va_K.moved (u := U) (U := U.calling g mk a) (Vm.Alike.refl U.vm) q.2.2⟩
theorem G_callV {x : Cx} {y : Cy} {cc : ByteArray} {own : String} (h : Ok x y cc own) {pc : Nat} {lv : List (Nat × Value)} {st : List Value} {M : Mem} {idx n maxL : Nat} {nm : MethodName} {bytes : ByteArray} {rm rm' : Room} {As rest : List Value} {o1 : Ans} (hR : x.1.2.2.2.1 = rm) {rt : FieldType} {i ci : Nat} {fs : List Value} {q : vw_C} {k : Int32 → Mem → Ans} (lk : LkV own idx nm bytes maxL (some rt) n) (hi : i < NWc) (he : ent y i (M i) = .inr (ci, fs)) (hq : CL[ci]? = some q) (hqn : q.1 = nm.cls) (hc : CT x.1.2.1 y nm bytes maxL (some rt) rm' (.ref (y.2.1 i) :: As) M o1) (hst : st = As.reverse ++ .ref (y.2.1 i) :: rest) (hn : As.length = n) (hw8 : (rest.map fun v => v.category).sum ≤ 8) (hr : rm'.cells = 0 ∧ rm'.slots = 0 ∧ rm'.frames + 1 ≤ rm.frames ∧ 8 + (maxL + 11) + rm'.locals ≤ rm.locals) (hd : decode cc pc = .ok (.invokevirtual idx, 3)) (kk : ∀ r1 M1, G x y (pc + 3) lv (.int r1 :: rest) M1 (k r1 M1)) : G x y pc lv st M (bd o1 k) := by
  intro r M' ho H locs ls hP hS hl
  obtain ⟨hx, hb, hml, hown, hts, hK, hy, hA, hcl, hsl⟩ := h
  cases ho1 : o1 with
  | none => rw [ho1] at ho; cases ho
  | some q2 =>
  rw [ho1] at ho
  have hM := hc q2.1 q2.2 ho1
  subst hst
  refine va_calli (va_runV (As := As) (rest := rest) ⟨hx, hb, hml, hown, hts⟩ hM (cwV n hts (LkV_good lk) rfl hr.1 hr.2.1 ⟨rfl, lk.2.2.2.2.2⟩ ⟨by rw [hR]; exact hr.2.2.1, by rw [hR]; exact hr.2.2.2⟩) ⟨Pp_blind, by have e := va_recv hK hP hq (show (wl y M)[i]? = some (y.2.1 i, .inr (ci, fs)) by rw [wl_get hi, he]); rw [hqn] at e; exact e, fun U hU hW => ⟨rfl, by rw [hU]; exact hP, va_K.moved hW.alike hK⟩⟩ rfl hn hl.1 rfl (lv_room hw8) hd ⟨hcl, hsl⟩) hS (fun q _ h => hA q h) hA (fun r2 u t H1 locs1 ht hvm hw hB hz hk hS1 => ?_)
  obtain ⟨rfl, rfl⟩ := hw
  exact kk q2.1 q2.2 r M' ho H1 locs1 ls (by rw [← ht]; exact hB) hS1 hl
theorem G_callVv {x : Cx} {y : Cy} {cc : ByteArray} {own : String} (h : Ok x y cc own) {pc : Nat} {lv : List (Nat × Value)} {st : List Value} {M : Mem} {idx n maxL : Nat} {nm : MethodName} {bytes : ByteArray} {rm rm' : Room} {As rest : List Value} {o1 : Ans} (hR : x.1.2.2.2.1 = rm) {i ci : Nat} {fs : List Value} {q : vw_C} {k : Int32 → Mem → Ans} (lk : LkV own idx nm bytes maxL none n) (hi : i < NWc) (he : ent y i (M i) = .inr (ci, fs)) (hq : CL[ci]? = some q) (hqn : q.1 = nm.cls) (hc : CT x.1.2.1 y nm bytes maxL none rm' (.ref (y.2.1 i) :: As) M o1) (hst : st = As.reverse ++ .ref (y.2.1 i) :: rest) (hn : As.length = n) (hw8 : (rest.map fun v => v.category).sum ≤ 8) (hr : rm'.cells = 0 ∧ rm'.slots = 0 ∧ rm'.frames + 1 ≤ rm.frames ∧ 8 + (maxL + 11) + rm'.locals ≤ rm.locals) (hd : decode cc pc = .ok (.invokevirtual idx, 3)) (kk : ∀ r1 M1, G x y (pc + 3) lv rest M1 (k r1 M1)) : G x y pc lv st M (bd o1 k) := by
  intro r M' ho H locs ls hP hS hl
  obtain ⟨hx, hb, hml, hown, hts, hK, hy, hA, hcl, hsl⟩ := h
  cases ho1 : o1 with
  | none => rw [ho1] at ho; cases ho
  | some q2 =>
  rw [ho1] at ho
  have hM := hc q2.1 q2.2 ho1
  subst hst
  refine va_callv (va_runV (As := As) (rest := rest) ⟨hx, hb, hml, hown, hts⟩ hM (cwV n hts (LkV_good lk) rfl hr.1 hr.2.1 ⟨rfl, lk.2.2.2.2.2⟩ ⟨by rw [hR]; exact hr.2.2.1, by rw [hR]; exact hr.2.2.2⟩) ⟨Pp_blind, by have e := va_recv hK hP hq (show (wl y M)[i]? = some (y.2.1 i, .inr (ci, fs)) by rw [wl_get hi, he]); rw [hqn] at e; exact e, fun U hU hW => ⟨rfl, by rw [hU]; exact hP, va_K.moved hW.alike hK⟩⟩ rfl hn hl.1 rfl (lv_room hw8) hd ⟨hcl, hsl⟩) hS (fun q _ h => hA q h) hA (fun u t H1 locs1 ht hvm hw hB hz hk hS1 => ?_)
  obtain rfl := hw
  exact kk q2.1 q2.2 r M' ho H1 locs1 ls (by rw [← ht]; exact hB) hS1 hl
theorem G_callS {x : Cx} {y : Cy} {cc : ByteArray} {own : String} (h : Ok x y cc own) {pc : Nat} {lv : List (Nat × Value)} {st : List Value} {M : Mem} {idx n maxL : Nat} {nm : MethodName} {bytes : ByteArray} {rm rm' : Room} {As rest : List Value} {o1 : Ans} (hR : x.1.2.2.2.1 = rm) {rt : FieldType} {k : Int32 → Mem → Ans} (lk : LkS own idx nm bytes maxL (some rt) n) (hc : CT x.1.2.1 y nm bytes maxL (some rt) rm' As M o1) (hst : st = As.reverse ++ rest) (hn : As.length = n) (hw8 : (rest.map fun v => v.category).sum ≤ 8) (hr : rm'.cells = 0 ∧ rm'.slots = 0 ∧ rm'.frames + 1 ≤ rm.frames ∧ 8 + (maxL + 11) + rm'.locals ≤ rm.locals) (hd : decode cc pc = .ok (.invokestatic idx, 3)) (kk : ∀ r1 M1, G x y (pc + 3) lv (.int r1 :: rest) M1 (k r1 M1)) : G x y pc lv st M (bd o1 k) := by
  intro r M' ho H locs ls hP hS hl
  obtain ⟨hx, hb, hml, hown, hts, hK, hy, hA, hcl, hsl⟩ := h
  cases ho1 : o1 with
  | none => rw [ho1] at ho; cases ho
  | some q2 =>
  rw [ho1] at ho
  have hM := hc q2.1 q2.2 ho1
  subst hst
  refine va_calli (va_runS (As := As) (rest := rest) ⟨hx, hb, hml, hown, hts⟩ hM (cwS n hts (LkS_good lk) rfl hr.1 hr.2.1 ⟨lk.2.2.1, lk.2.2.2.2.2⟩ ⟨by rw [hR]; exact hr.2.2.1, by rw [hR]; exact hr.2.2.2⟩) ⟨Pp_blind, fun U hU hW => ⟨rfl, by rw [hU]; exact hP, va_K.moved hW.alike hK⟩⟩ rfl hn hl.1 rfl (lv_room hw8) hd ⟨hcl, hsl⟩) hS (fun q _ h => hA q h) hA (fun r2 u t H1 locs1 ht hvm hw hB hz hk hS1 => ?_)
  obtain ⟨rfl, rfl⟩ := hw
  exact kk q2.1 q2.2 r M' ho H1 locs1 ls (by rw [← ht]; exact hB) hS1 hl
theorem G_callSv {x : Cx} {y : Cy} {cc : ByteArray} {own : String} (h : Ok x y cc own) {pc : Nat} {lv : List (Nat × Value)} {st : List Value} {M : Mem} {idx n maxL : Nat} {nm : MethodName} {bytes : ByteArray} {rm rm' : Room} {As rest : List Value} {o1 : Ans} (hR : x.1.2.2.2.1 = rm) {k : Int32 → Mem → Ans} (lk : LkS own idx nm bytes maxL none n) (hc : CT x.1.2.1 y nm bytes maxL none rm' As M o1) (hst : st = As.reverse ++ rest) (hn : As.length = n) (hw8 : (rest.map fun v => v.category).sum ≤ 8) (hr : rm'.cells = 0 ∧ rm'.slots = 0 ∧ rm'.frames + 1 ≤ rm.frames ∧ 8 + (maxL + 11) + rm'.locals ≤ rm.locals) (hd : decode cc pc = .ok (.invokestatic idx, 3)) (kk : ∀ r1 M1, G x y (pc + 3) lv rest M1 (k r1 M1)) : G x y pc lv st M (bd o1 k) := by
  intro r M' ho H locs ls hP hS hl
  obtain ⟨hx, hb, hml, hown, hts, hK, hy, hA, hcl, hsl⟩ := h
  cases ho1 : o1 with
  | none => rw [ho1] at ho; cases ho
  | some q2 =>
  rw [ho1] at ho
  have hM := hc q2.1 q2.2 ho1
  subst hst
  refine va_callv (va_runS (As := As) (rest := rest) ⟨hx, hb, hml, hown, hts⟩ hM (cwS n hts (LkS_good lk) rfl hr.1 hr.2.1 ⟨lk.2.2.1, lk.2.2.2.2.2⟩ ⟨by rw [hR]; exact hr.2.2.1, by rw [hR]; exact hr.2.2.2⟩) ⟨Pp_blind, fun U hU hW => ⟨rfl, by rw [hU]; exact hP, va_K.moved hW.alike hK⟩⟩ rfl hn hl.1 rfl (lv_room hw8) hd ⟨hcl, hsl⟩) hS (fun q _ h => hA q h) hA (fun u t H1 locs1 ht hvm hw hB hz hk hS1 => ?_)
  obtain rfl := hw
  exact kk q2.1 q2.2 r M' ho H1 locs1 ls (by rw [← ht]; exact hB) hS1 hl
def OkM (x : Cx) (y : Cy) (cc : ByteArray) (own : String) (nL : Nat) (ret : Option FieldType) (rm : Room) : Prop :=
  Ok x y cc own ∧ x.2.2.2.2.1 = nL ∧ x.1.2.2.2.1 = rm ∧ x.2.1.2.2.2.1.sig.returnType = ret ∧ x.2.1.2.2.2.1.locks = false ∧ x.2.2.1 = 0 ∧ x.2.2.2.1 = 0 ∧ x.2.2.2.2.2.1 = AA y ∧ x.2.2.2.2.2.2 = fun r M' => MQ x.2.1.2.2.1 (Qp y ret r M') x.2.1.2.1 x.1.2.2.2.2 0 0 (AA y)
theorem G_ret {x : Cx} {y : Cy} {cc : ByteArray} {own : String} {nL : Nat} {ty : FieldType} {rm : Room} (h : OkM x y cc own nL (some ty) rm) {pc : Nat} {lv : List (Nat × Value)} {M : Mem} {v : Int32} (hn : narrow ty (.int v) = .int v) (hd : decode cc pc = .ok (.ireturn, 1)) : G x y pc lv [.int v] M (some (v, M)) := by
  intro r M' ho H locs ls hP hS hl
  cases ho
  obtain ⟨⟨hx, hb, -⟩, hL, hR, hr, hlk, h1, h2, hA, hQ⟩ := h
  unfold WW
  rw [hQ, h1, h2]
  rw [hA] at hS
  exact W.zret hx hb hr hn (fun t ht hW => ⟨⟨v, M, rfl, ⟨rfl, rfl⟩, by show va_P _ _ _ _; rw [ht]; exact hP⟩, hS.F ht⟩) hS.2.2 hd hlk
theorem G_retN {x : Cx} {y : Cy} {cc : ByteArray} {own : String} {nL : Nat} {ty : FieldType} {rm : Room} (h : OkM x y cc own nL (some ty) rm) {pc : Nat} {lv : List (Nat × Value)} {M : Mem} {v : Int32} (hd : decode cc pc = .ok (.ireturn, 1)) : G x y pc lv [.int v] M (nar ty v (some (v, M))) := by
  unfold nar
  by_cases hn : narrow ty (.int v) = .int v
  · rw [if_pos hn]; exact G_ret h hn hd
  · rw [if_neg hn]; exact G_none
theorem G_vret {x : Cx} {y : Cy} {cc : ByteArray} {own : String} {nL : Nat} {rm : Room} (h : OkM x y cc own nL none rm) {pc : Nat} {lv : List (Nat × Value)} {M : Mem} (hd : decode cc pc = .ok (.return_, 1)) : G x y pc lv [] M (some (0, M)) := by
  intro r M' ho H locs ls hP hS hl
  cases ho
  obtain ⟨⟨hx, hb, -⟩, hL, hR, hr, hlk, h1, h2, hA, hQ⟩ := h
  unfold WW
  rw [hQ, h1, h2]
  rw [hA] at hS
  exact W.vret hx hb hr (fun t ht hW => ⟨⟨M, rfl, rfl, by show va_P _ _ _ _; rw [ht]; exact hP⟩, hS.F ht⟩) hS.2.2 hd hlk
/-- a contract out of the walk of the body -/
theorem CT_of {l : Launch} {y : Cy} {nm : MethodName} {cc : ByteArray} {maxL : Nat} {ret : Option FieldType} {rm : Room} {args : List Value} {M : Mem} {o : Ans} (hpl : plainName nm.cls = true) (hy : Inj y) (hlen : (lg_sl args).length ≤ maxL)
    (hG : ∀ x : Cx, x.1.2.1 = l → OkM x y cc nm.cls maxL ret rm → G x y 0 (lv_args 0 args) [] M o) : CT l y nm cc maxL ret rm args M o := by
  intro r M' ho
  refine Met.ofW (cc := cc) (maxL := maxL) (ret := ret) hpl rfl ?_
  intro p e s m av below meth c s₁ B hml hv
  obtain ⟨rfl, hP, hK⟩ := hv
  have hts := atoms_spec (ws := .code nm cc maxL ret :: TT) B.pre
  have hown : s.vm.findClass nm.cls = some m.cls := findClass_of_methodNamed B.named
  have hl := lv_entry args (n := maxL) hlen
  rw [lg_entry_eq]
  have hok : OkM ((p, l, e, rm, s), (m, args.toArray, below, meth, c), (0, 0, maxL, AA y, fun r M' => MQ below (Qp y ret r M') args.toArray s 0 0 (AA y))) y cc nm.cls maxL ret rm :=
    ⟨⟨B.exec, B.bytes, hml, hown, fun w hw => hts w (List.mem_cons_of_mem _ hw), hK, hy, fun _ h => h, Nat.zero_le _, Nat.zero_le _⟩, rfl, rfl, B.returns, B.notSynchronized, rfl, rfl, rfl, rfl⟩
  exact hG _ rfl hok r M' ho s.heap [] _ hP va_S.rf hl
end
section
def fuelN : Nat := 4000
theorem G_ite {x : Cx} {y : Cy} {pc : Nat} {lv : List (Nat × Value)} {st : List Value} {M : Mem} {a b : Int32} {o1 o2 : Ans} (k1 : a = b → G x y pc lv st M o1) (k2 : ¬ a = b → G x y pc lv st M o2) : G x y pc lv st M (if a = b then o1 else o2) := by
  by_cases c : a = b
  · rw [if_pos c]; exact k1 c
  · rw [if_neg c]; exact k2 c
theorem g_ne {a b : Int32} (h : ¬ a = b) (z : Int) (hz : b.toInt = z) : ¬ a.toInt = z := fun e => h (Int32.toInt_inj.mp (e.trans hz.symm))
theorem G_tabIn {x : Cx} {y : Cy} {cc : ByteArray} {own : String} (h : Ok x y cc own) {pc : Nat} {lv : List (Nat × Value)} {st : List Value} {M : Mem} {o : Ans} {a b : Int32} {z dflt lo hi : Int} {offs : Array Int} {len tgt : Nat} {off : Int} (hd : decode cc pc = .ok (.tableswitch dflt lo hi offs, len)) (hc : a = b) (hz : b.toInt = z) (h1 : ¬ z < lo) (h2 : ¬ hi < z) (ho : offs[(z - lo).toNat]? = some off) (ht : (pc : Int) + off = (tgt : Int)) (kk : G x y tgt lv st M o) : G x y pc lv (.int a :: st) M o := by
  intro r M' hq H locs ls hP hS hl
  subst hc
  subst hz
  exact lv_tableIn h.1 h.2.1 hd h1 h2 ho ht (kk r M' hq H locs ls hP hS hl)
theorem G_tabOut {x : Cx} {y : Cy} {cc : ByteArray} {own : String} (h : Ok x y cc own) {pc : Nat} {lv : List (Nat × Value)} {st : List Value} {M : Mem} {o : Ans} {a : Int32} {dflt lo hi : Int} {offs : Array Int} {len tgt : Nat} (hd : decode cc pc = .ok (.tableswitch dflt lo hi offs, len)) (hc : a.toInt < lo ∨ hi < a.toInt) (ht : (pc : Int) + dflt = (tgt : Int)) (kk : G x y tgt lv st M o) : G x y pc lv (.int a :: st) M o := by
  intro r M' hq H locs ls hP hS hl
  exact lv_tableOut h.1 h.2.1 hd hc ht (kk r M' hq H locs ls hP hS hl)
theorem G_lkIn {x : Cx} {y : Cy} {cc : ByteArray} {own : String} (h : Ok x y cc own) {pc : Nat} {lv : List (Nat × Value)} {st : List Value} {M : Mem} {o : Ans} {a b : Int32} {z dflt : Int} {ps : Array (Int × Int)} {len tgt : Nat} {off : Int} (hd : decode cc pc = .ok (.lookupswitch dflt ps, len)) (hc : a = b) (hz : b.toInt = z) (hp : (ps.toList.zip (ps.toList.drop 1)).all (fun (a, next) => a.1 < next.1) = true) (ho : Op.lookupswitch.offset ps.toList dflt z = off) (ht : (pc : Int) + off = (tgt : Int)) (kk : G x y tgt lv st M o) : G x y pc lv (.int a :: st) M o := by
  intro r M' hq H locs ls hP hS hl
  subst hc
  subst hz
  exact lv_lookup h.1 h.2.1 hd hp ho ht (kk r M' hq H locs ls hP hS hl)
theorem G_lkOut {x : Cx} {y : Cy} {cc : ByteArray} {own : String} (h : Ok x y cc own) {pc : Nat} {lv : List (Nat × Value)} {st : List Value} {M : Mem} {o : Ans} {a : Int32} {dflt : Int} {ps : Array (Int × Int)} {len tgt : Nat} (hd : decode cc pc = .ok (.lookupswitch dflt ps, len)) (hp : (ps.toList.zip (ps.toList.drop 1)).all (fun (a, next) => a.1 < next.1) = true) (ho : Op.lookupswitch.offset ps.toList dflt a.toInt = dflt) (ht : (pc : Int) + dflt = (tgt : Int)) (kk : G x y tgt lv st M o) : G x y pc lv (.int a :: st) M o := by
  intro r M' hq H locs ls hP hS hl
  exact lv_lookup h.1 h.2.1 hd hp ho ht (kk r M' hq H locs ls hP hS hl)
theorem h7_0 : 0 < 7 := by decide
theorem h7_1 : 1 < 7 := by decide
theorem h7_2 : 2 < 7 := by decide
theorem h2_0 : 0 < 2 := by decide
theorem h2_1 : 1 < 2 := by decide
theorem lN132 : 132 < NWc := by decide
theorem lN133 : 133 < NWc := by decide
theorem lN134 : 134 < NWc := by decide
theorem lN135 : 135 < NWc := by decide
theorem lN136 : 136 < NWc := by decide
theorem lN137 : 137 < NWc := by decide
theorem lN138 : 138 < NWc := by decide
theorem lN139 : 139 < NWc := by decide
theorem lN140 : 140 < NWc := by decide
theorem lN141 : 141 < NWc := by decide
theorem lN142 : 142 < NWc := by decide
theorem lN143 : 143 < NWc := by decide
theorem lN144 : 144 < NWc := by decide
theorem lN145 : 145 < NWc := by decide
theorem lN146 : 146 < NWc := by decide
theorem lN147 : 147 < NWc := by decide
theorem lN148 : 148 < NWc := by decide
theorem lN149 : 149 < NWc := by decide
theorem lN150 : 150 < NWc := by decide
theorem lN151 : 151 < NWc := by decide
theorem lN152 : 152 < NWc := by decide
theorem lN153 : 153 < NWc := by decide
theorem eS0 {y : Cy} {k : Nat} (hk : k < 7) (m : Nat → Int32) : ent y (sI k 0) m = .inr (5, [.int (m 0), .int (m 1), .int (m 2), .int (m 3), .int (m 4), .int (m 5), .int (m 6), .ref (y.2.1 (sI k 1)), .ref (y.2.1 (sI k 6)), .ref (y.2.1 (sI k 12))]) := by rw [ent_s hk 0 (by decide)]; rfl
theorem eS1 {y : Cy} {k : Nat} (hk : k < 7) (m : Nat → Int32) : ent y (sI k 1) m = .inr (4, [.int (m 0), .ref (y.2.1 (sI k 2)), .ref (y.2.1 (sI k 3)), .ref (y.2.1 (sI k 4)), .ref (y.2.1 (sI k 5))]) := by rw [ent_s hk 1 (by decide)]; rfl
theorem eS2 {y : Cy} {k : Nat} (hk : k < 7) (m : Nat → Int32) : ent y (sI k 2) m = .inl (y.2.2 0, (8, .inl m)) := by rw [ent_s hk 2 (by decide)]; rfl
theorem eS3 {y : Cy} {k : Nat} (hk : k < 7) (m : Nat → Int32) : ent y (sI k 3) m = .inl (y.2.2 0, (8, .inl m)) := by rw [ent_s hk 3 (by decide)]; rfl
theorem eS4 {y : Cy} {k : Nat} (hk : k < 7) (m : Nat → Int32) : ent y (sI k 4) m = .inl (y.2.2 0, (8, .inl m)) := by rw [ent_s hk 4 (by decide)]; rfl
theorem eS5 {y : Cy} {k : Nat} (hk : k < 7) (m : Nat → Int32) : ent y (sI k 5) m = .inl (y.2.2 0, (8, .inl m)) := by rw [ent_s hk 5 (by decide)]; rfl
theorem eS6 {y : Cy} {k : Nat} (hk : k < 7) (m : Nat → Int32) : ent y (sI k 6) m = .inr (0, [.int (m 0), .ref (y.2.1 (sI k 7)), .ref (y.2.1 (sI k 8)), .ref (y.2.1 (sI k 9)), .ref (y.2.1 (sI k 10)), .ref (y.2.1 (sI k 11))]) := by rw [ent_s hk 6 (by decide)]; rfl
theorem eS7 {y : Cy} {k : Nat} (hk : k < 7) (m : Nat → Int32) : ent y (sI k 7) m = .inl (y.2.2 0, (60, .inl m)) := by rw [ent_s hk 7 (by decide)]; rfl
theorem eS8 {y : Cy} {k : Nat} (hk : k < 7) (m : Nat → Int32) : ent y (sI k 8) m = .inl (y.2.2 0, (60, .inl m)) := by rw [ent_s hk 8 (by decide)]; rfl
theorem eS9 {y : Cy} {k : Nat} (hk : k < 7) (m : Nat → Int32) : ent y (sI k 9) m = .inl (y.2.2 0, (60, .inl m)) := by rw [ent_s hk 9 (by decide)]; rfl
theorem eS10 {y : Cy} {k : Nat} (hk : k < 7) (m : Nat → Int32) : ent y (sI k 10) m = .inl (y.2.2 0, (60, .inl m)) := by rw [ent_s hk 10 (by decide)]; rfl
theorem eS11 {y : Cy} {k : Nat} (hk : k < 7) (m : Nat → Int32) : ent y (sI k 11) m = .inl (y.2.2 0, (60, .inl m)) := by rw [ent_s hk 11 (by decide)]; rfl
theorem eS12 {y : Cy} {k : Nat} (hk : k < 7) (m : Nat → Int32) : ent y (sI k 12) m = .inr (7, [.int (m 0), .ref (y.2.1 (sI k 13)), .ref (y.2.1 (sI k 14)), .ref (y.2.1 (sI k 15))]) := by rw [ent_s hk 12 (by decide)]; rfl
theorem eS13 {y : Cy} {k : Nat} (hk : k < 7) (m : Nat → Int32) : ent y (sI k 13) m = .inl (y.2.2 0, (8, .inl m)) := by rw [ent_s hk 13 (by decide)]; rfl
theorem eS14 {y : Cy} {k : Nat} (hk : k < 7) (m : Nat → Int32) : ent y (sI k 14) m = .inl (y.2.2 0, (8, .inl m)) := by rw [ent_s hk 14 (by decide)]; rfl
theorem eS15 {y : Cy} {k : Nat} (hk : k < 7) (m : Nat → Int32) : ent y (sI k 15) m = .inl (y.2.2 0, (8, .inl m)) := by rw [ent_s hk 15 (by decide)]; rfl
theorem eC0 {y : Cy} {c : Nat} (hc : c < 2) (m : Nat → Int32) : ent y (cI c 0) m = .inr (1, [.int (m 0), .int (m 1), .int (m 2), .int (m 3), .int (m 4), .int (m 5), .int (m 6), .int (m 7), .ref (y.2.1 (cI c 1)), .ref (y.2.1 (cI c 2)), .ref (y.2.1 (cI c 3)), .ref (y.2.1 (cI c 4)), .ref (y.2.1 (cI c 5)), .ref (y.2.1 (cI c 6)), .ref (y.2.1 (cI c 7)), .ref (y.2.1 (cI c 8)), .ref (y.2.1 (cI c 9))]) := by rw [ent_c hc 0 (by decide)]; rfl
theorem eC1 {y : Cy} {c : Nat} (hc : c < 2) (m : Nat → Int32) : ent y (cI c 1) m = .inl (y.2.2 0, (61, .inl m)) := by rw [ent_c hc 1 (by decide)]; rfl
theorem eC2 {y : Cy} {c : Nat} (hc : c < 2) (m : Nat → Int32) : ent y (cI c 2) m = .inl (y.2.2 0, (61, .inl m)) := by rw [ent_c hc 2 (by decide)]; rfl
theorem eC3 {y : Cy} {c : Nat} (hc : c < 2) (m : Nat → Int32) : ent y (cI c 3) m = .inl (y.2.2 0, (61, .inl m)) := by rw [ent_c hc 3 (by decide)]; rfl
theorem eC4 {y : Cy} {c : Nat} (hc : c < 2) (m : Nat → Int32) : ent y (cI c 4) m = .inl (y.2.2 0, (61, .inl m)) := by rw [ent_c hc 4 (by decide)]; rfl
theorem eC5 {y : Cy} {c : Nat} (hc : c < 2) (m : Nat → Int32) : ent y (cI c 5) m = .inl (y.2.2 0, (61, .inl m)) := by rw [ent_c hc 5 (by decide)]; rfl
theorem eC6 {y : Cy} {c : Nat} (hc : c < 2) (m : Nat → Int32) : ent y (cI c 6) m = .inl (y.2.2 0, (61, .inl m)) := by rw [ent_c hc 6 (by decide)]; rfl
theorem eC7 {y : Cy} {c : Nat} (hc : c < 2) (m : Nat → Int32) : ent y (cI c 7) m = .inl (y.2.2 0, (61, .inl m)) := by rw [ent_c hc 7 (by decide)]; rfl
theorem eC8 {y : Cy} {c : Nat} (hc : c < 2) (m : Nat → Int32) : ent y (cI c 8) m = .inl (y.2.2 0, (61, .inl m)) := by rw [ent_c hc 8 (by decide)]; rfl
theorem eC9 {y : Cy} {c : Nat} (hc : c < 2) (m : Nat → Int32) : ent y (cI c 9) m = .inl (y.2.2 0, (61, .inl m)) := by rw [ent_c hc 9 (by decide)]; rfl
theorem eM132 {y : Cy} (m : Nat → Int32) : ent y 132 m = .inr (3, [.ref (y.2.1 (cI 1 0)), .ref (y.2.1 133), .int (m 2), .int (m 3)]) := by rw [ent_m (by decide)]; rfl
theorem eM133 {y : Cy} (m : Nat → Int32) : ent y 133 m = .inl (y.2.2 1, (60, .inl m)) := by rw [ent_m (by decide)]; rfl
theorem eM134 {y : Cy} (m : Nat → Int32) : ent y 134 m = .inr (2, [.ref (y.2.1 135), .int (m 1)]) := by rw [ent_m (by decide)]; rfl
theorem eM136 {y : Cy} (m : Nat → Int32) : ent y 136 m = .inr (6, [.ref (y.2.1 137), .int (m 1), .int (m 2), .ref (y.2.1 138), .ref (y.2.1 139), .ref (y.2.1 140), .int (m 6)]) := by rw [ent_m (by decide)]; rfl
theorem eM137 {y : Cy} (m : Nat → Int32) : ent y 137 m = .inl (y.2.2 2, (60, .inl m)) := by rw [ent_m (by decide)]; rfl
theorem eM138 {y : Cy} (m : Nat → Int32) : ent y 138 m = .inl (y.2.2 0, (10, .inl m)) := by rw [ent_m (by decide)]; rfl
theorem eM139 {y : Cy} (m : Nat → Int32) : ent y 139 m = .inl (y.2.2 0, (10, .inl m)) := by rw [ent_m (by decide)]; rfl
theorem eM140 {y : Cy} (m : Nat → Int32) : ent y 140 m = .inl (y.2.2 0, (10, .inl m)) := by rw [ent_m (by decide)]; rfl
theorem eM141 {y : Cy} (m : Nat → Int32) : ent y 141 m = .inr (8, [.ref (y.2.1 (sI 0 0)), .ref (y.2.1 (sI 1 0)), .ref (y.2.1 (sI 2 0)), .int (m 3), .ref (y.2.1 134), .ref (y.2.1 136), .ref (y.2.1 (cI 0 0)), .ref (y.2.1 132), .ref (y.2.1 142)]) := by rw [ent_m (by decide)]; rfl
theorem eM142 {y : Cy} (m : Nat → Int32) : ent y 142 m = .inl (y.2.2 1, (60, .inl m)) := by rw [ent_m (by decide)]; rfl
theorem eM143 {y : Cy} (m : Nat → Int32) : ent y 143 m = .inr (9, [.ref (y.2.1 144), .ref (y.2.1 145), .int (m 2), .ref (y.2.1 146), .int (m 4), .ref (y.2.1 147), .ref (y.2.1 148), .ref (y.2.1 149), .ref (y.2.1 150), .ref (y.2.1 151), .int (m 10), .int (m 11), .int (m 12), .int (m 13), .int (m 14), .int (m 15), .int (m 16), .ref (y.2.1 152), .int (m 18), .ref (y.2.1 153), .int (m 20), .int (m 21), .int (m 22), .int (m 23)]) := by rw [ent_m (by decide)]; rfl
theorem eM144 {y : Cy} (m : Nat → Int32) : ent y 144 m = .inl (y.2.2 0, (366, .inl m)) := by rw [ent_m (by decide)]; rfl
theorem eM145 {y : Cy} (m : Nat → Int32) : ent y 145 m = .inl (y.2.2 0, (1464, .inl m)) := by rw [ent_m (by decide)]; rfl
theorem eM146 {y : Cy} (m : Nat → Int32) : ent y 146 m = .inl (y.2.2 0, (366, .inl m)) := by rw [ent_m (by decide)]; rfl
theorem eM147 {y : Cy} (m : Nat → Int32) : ent y 147 m = .inl (y.2.2 0, (366, .inl m)) := by rw [ent_m (by decide)]; rfl
theorem eM148 {y : Cy} (m : Nat → Int32) : ent y 148 m = .inl (y.2.2 0, (61, .inl m)) := by rw [ent_m (by decide)]; rfl
theorem eM149 {y : Cy} (m : Nat → Int32) : ent y 149 m = .inl (y.2.2 0, (61, .inl m)) := by rw [ent_m (by decide)]; rfl
theorem eM150 {y : Cy} (m : Nat → Int32) : ent y 150 m = .inl (y.2.2 0, (61, .inl m)) := by rw [ent_m (by decide)]; rfl
theorem eM151 {y : Cy} (m : Nat → Int32) : ent y 151 m = .inl (y.2.2 0, (61, .inl m)) := by rw [ent_m (by decide)]; rfl
theorem eM152 {y : Cy} (m : Nat → Int32) : ent y 152 m = .inl (y.2.2 1, (60, .inl m)) := by rw [ent_m (by decide)]; rfl
theorem eM153 {y : Cy} (m : Nat → Int32) : ent y 153 m = .inl (y.2.2 2, (60, .inl m)) := by rw [ent_m (by decide)]; rfl
theorem uTX0 : ∀ w ∈ u_ws RX0 TX0 6, w ∈ TT := by decide +kernel
theorem uTX1 : ∀ w ∈ u_ws RX1 TX1 17, w ∈ TT := by decide +kernel
theorem uTX2 : ∀ w ∈ u_ws RX2 TX2 2, w ∈ TT := by decide +kernel
theorem uTX3 : ∀ w ∈ u_ws RX3 TX3 4, w ∈ TT := by decide +kernel
theorem uTX4 : ∀ w ∈ u_ws RX4 TX4 5, w ∈ TT := by decide +kernel
theorem uTX5 : ∀ w ∈ u_ws RX5 TX5 10, w ∈ TT := by decide +kernel
theorem uTX6 : ∀ w ∈ u_ws RX6 TX6 7, w ∈ TT := by decide +kernel
theorem uTX7 : ∀ w ∈ u_ws RX7 TX7 4, w ∈ TT := by decide +kernel
theorem uTX8 : ∀ w ∈ u_ws RX8 TX8 9, w ∈ TT := by decide +kernel
theorem uTX9 : ∀ w ∈ u_ws RX9 TX9 24, w ∈ TT := by decide +kernel
theorem fl_X4_24 : FL RX4 24 4 0 := ⟨RX4, TX4, 5, rfl, by decide, uTX4, rfl, (tt_mem 33 (by decide +kernel) rfl)⟩
theorem fp_X4_24 : FP RX4 24 4 0 .int := ⟨RX4, TX4, 5, tyX4, rfl, by decide, uTX4, rfl, (tt_mem 33 (by decide +kernel) rfl), tyX4_ok, nmX4, rfl, by decide +kernel⟩
theorem fl_X8_66 : FL RX8 66 4 0 := ⟨RX4, TX4, 5, rfl, by decide, uTX4, rfl, (tt_mem 34 (by decide +kernel) rfl)⟩
theorem fp_X8_66 : FP RX8 66 4 0 .int := ⟨RX4, TX4, 5, tyX4, rfl, by decide, uTX4, rfl, (tt_mem 34 (by decide +kernel) rfl), tyX4_ok, nmX4, rfl, by decide +kernel⟩
theorem fl_X4_9 : FL RX4 9 4 1 := ⟨RX4, TX4, 5, rfl, by decide, uTX4, rfl, (tt_mem 35 (by decide +kernel) rfl)⟩
theorem fl_X1_109 : FL RX1 109 4 1 := ⟨RX4, TX4, 5, rfl, by decide, uTX4, rfl, (tt_mem 36 (by decide +kernel) rfl)⟩
theorem fl_X8_215 : FL RX8 215 4 1 := ⟨RX4, TX4, 5, rfl, by decide, uTX4, rfl, (tt_mem 37 (by decide +kernel) rfl)⟩
theorem fl_X4_15 : FL RX4 15 4 2 := ⟨RX4, TX4, 5, rfl, by decide, uTX4, rfl, (tt_mem 38 (by decide +kernel) rfl)⟩
theorem fl_X1_110 : FL RX1 110 4 2 := ⟨RX4, TX4, 5, rfl, by decide, uTX4, rfl, (tt_mem 39 (by decide +kernel) rfl)⟩
theorem fl_X8_218 : FL RX8 218 4 2 := ⟨RX4, TX4, 5, rfl, by decide, uTX4, rfl, (tt_mem 40 (by decide +kernel) rfl)⟩
theorem fl_X4_18 : FL RX4 18 4 3 := ⟨RX4, TX4, 5, rfl, by decide, uTX4, rfl, (tt_mem 41 (by decide +kernel) rfl)⟩
theorem fl_X1_111 : FL RX1 111 4 3 := ⟨RX4, TX4, 5, rfl, by decide, uTX4, rfl, (tt_mem 42 (by decide +kernel) rfl)⟩
theorem fl_X8_221 : FL RX8 221 4 3 := ⟨RX4, TX4, 5, rfl, by decide, uTX4, rfl, (tt_mem 43 (by decide +kernel) rfl)⟩
theorem fl_X4_21 : FL RX4 21 4 4 := ⟨RX4, TX4, 5, rfl, by decide, uTX4, rfl, (tt_mem 44 (by decide +kernel) rfl)⟩
theorem fl_X8_224 : FL RX8 224 4 4 := ⟨RX4, TX4, 5, rfl, by decide, uTX4, rfl, (tt_mem 45 (by decide +kernel) rfl)⟩
theorem fl_X0_27 : FL RX0 27 0 0 := ⟨RX0, TX0, 6, rfl, by decide, uTX0, rfl, (tt_mem 64 (by decide +kernel) rfl)⟩
theorem fp_X0_27 : FP RX0 27 0 0 .int := ⟨RX0, TX0, 6, tyX0, rfl, by decide, uTX0, rfl, (tt_mem 64 (by decide +kernel) rfl), tyX0_ok, nmX0, rfl, by decide +kernel⟩
theorem fl_X5_45 : FL RX5 45 0 0 := ⟨RX0, TX0, 6, rfl, by decide, uTX0, rfl, (tt_mem 65 (by decide +kernel) rfl)⟩
theorem fp_X5_45 : FP RX5 45 0 0 .int := ⟨RX0, TX0, 6, tyX0, rfl, by decide, uTX0, rfl, (tt_mem 65 (by decide +kernel) rfl), tyX0_ok, nmX0, rfl, by decide +kernel⟩
theorem fl_X1_76 : FL RX1 76 0 0 := ⟨RX0, TX0, 6, rfl, by decide, uTX0, rfl, (tt_mem 66 (by decide +kernel) rfl)⟩
theorem fp_X1_76 : FP RX1 76 0 0 .int := ⟨RX0, TX0, 6, tyX0, rfl, by decide, uTX0, rfl, (tt_mem 66 (by decide +kernel) rfl), tyX0_ok, nmX0, rfl, by decide +kernel⟩
theorem fl_X8_158 : FL RX8 158 0 0 := ⟨RX0, TX0, 6, rfl, by decide, uTX0, rfl, (tt_mem 67 (by decide +kernel) rfl)⟩
theorem fp_X8_158 : FP RX8 158 0 0 .int := ⟨RX0, TX0, 6, tyX0, rfl, by decide, uTX0, rfl, (tt_mem 67 (by decide +kernel) rfl), tyX0_ok, nmX0, rfl, by decide +kernel⟩
theorem fl_X0_9 : FL RX0 9 0 1 := ⟨RX0, TX0, 6, rfl, by decide, uTX0, rfl, (tt_mem 68 (by decide +kernel) rfl)⟩
theorem fl_X8_131 : FL RX8 131 0 1 := ⟨RX0, TX0, 6, rfl, by decide, uTX0, rfl, (tt_mem 69 (by decide +kernel) rfl)⟩
theorem fl_X0_15 : FL RX0 15 0 2 := ⟨RX0, TX0, 6, rfl, by decide, uTX0, rfl, (tt_mem 70 (by decide +kernel) rfl)⟩
theorem fl_X5_56 : FL RX5 56 0 2 := ⟨RX0, TX0, 6, rfl, by decide, uTX0, rfl, (tt_mem 71 (by decide +kernel) rfl)⟩
theorem fl_X1_85 : FL RX1 85 0 2 := ⟨RX0, TX0, 6, rfl, by decide, uTX0, rfl, (tt_mem 72 (by decide +kernel) rfl)⟩
theorem fl_X8_134 : FL RX8 134 0 2 := ⟨RX0, TX0, 6, rfl, by decide, uTX0, rfl, (tt_mem 73 (by decide +kernel) rfl)⟩
theorem fl_X0_18 : FL RX0 18 0 3 := ⟨RX0, TX0, 6, rfl, by decide, uTX0, rfl, (tt_mem 74 (by decide +kernel) rfl)⟩
theorem fl_X5_52 : FL RX5 52 0 3 := ⟨RX0, TX0, 6, rfl, by decide, uTX0, rfl, (tt_mem 75 (by decide +kernel) rfl)⟩
theorem fl_X1_88 : FL RX1 88 0 3 := ⟨RX0, TX0, 6, rfl, by decide, uTX0, rfl, (tt_mem 76 (by decide +kernel) rfl)⟩
theorem fl_X8_145 : FL RX8 145 0 3 := ⟨RX0, TX0, 6, rfl, by decide, uTX0, rfl, (tt_mem 77 (by decide +kernel) rfl)⟩
theorem fl_X0_21 : FL RX0 21 0 4 := ⟨RX0, TX0, 6, rfl, by decide, uTX0, rfl, (tt_mem 78 (by decide +kernel) rfl)⟩
theorem fl_X1_107 : FL RX1 107 0 4 := ⟨RX0, TX0, 6, rfl, by decide, uTX0, rfl, (tt_mem 79 (by decide +kernel) rfl)⟩
theorem fl_X8_121 : FL RX8 121 0 4 := ⟨RX0, TX0, 6, rfl, by decide, uTX0, rfl, (tt_mem 80 (by decide +kernel) rfl)⟩
theorem fl_X0_24 : FL RX0 24 0 5 := ⟨RX0, TX0, 6, rfl, by decide, uTX0, rfl, (tt_mem 81 (by decide +kernel) rfl)⟩
theorem fl_X1_108 : FL RX1 108 0 5 := ⟨RX0, TX0, 6, rfl, by decide, uTX0, rfl, (tt_mem 82 (by decide +kernel) rfl)⟩
theorem fl_X8_240 : FL RX8 240 0 5 := ⟨RX0, TX0, 6, rfl, by decide, uTX0, rfl, (tt_mem 83 (by decide +kernel) rfl)⟩
theorem fl_X7_21 : FL RX7 21 7 0 := ⟨RX7, TX7, 4, rfl, by decide, uTX7, rfl, (tt_mem 103 (by decide +kernel) rfl)⟩
theorem fp_X7_21 : FP RX7 21 7 0 .int := ⟨RX7, TX7, 4, tyX7, rfl, by decide, uTX7, rfl, (tt_mem 103 (by decide +kernel) rfl), tyX7_ok, nmX7, rfl, by decide +kernel⟩
theorem fl_X8_170 : FL RX8 170 7 0 := ⟨RX7, TX7, 4, rfl, by decide, uTX7, rfl, (tt_mem 104 (by decide +kernel) rfl)⟩
theorem fp_X8_170 : FP RX8 170 7 0 .int := ⟨RX7, TX7, 4, tyX7, rfl, by decide, uTX7, rfl, (tt_mem 104 (by decide +kernel) rfl), tyX7_ok, nmX7, rfl, by decide +kernel⟩
theorem fl_X7_9 : FL RX7 9 7 1 := ⟨RX7, TX7, 4, rfl, by decide, uTX7, rfl, (tt_mem 105 (by decide +kernel) rfl)⟩
theorem fl_X8_252 : FL RX8 252 7 1 := ⟨RX7, TX7, 4, rfl, by decide, uTX7, rfl, (tt_mem 106 (by decide +kernel) rfl)⟩
theorem fl_X7_15 : FL RX7 15 7 2 := ⟨RX7, TX7, 4, rfl, by decide, uTX7, rfl, (tt_mem 107 (by decide +kernel) rfl)⟩
theorem fl_X8_175 : FL RX8 175 7 2 := ⟨RX7, TX7, 4, rfl, by decide, uTX7, rfl, (tt_mem 108 (by decide +kernel) rfl)⟩
theorem fl_X7_18 : FL RX7 18 7 3 := ⟨RX7, TX7, 4, rfl, by decide, uTX7, rfl, (tt_mem 109 (by decide +kernel) rfl)⟩
theorem fl_X8_253 : FL RX8 253 7 3 := ⟨RX7, TX7, 4, rfl, by decide, uTX7, rfl, (tt_mem 110 (by decide +kernel) rfl)⟩
theorem fl_X5_42 : FL RX5 42 5 0 := ⟨RX5, TX5, 10, rfl, by decide, uTX5, rfl, (tt_mem 120 (by decide +kernel) rfl)⟩
theorem fp_X5_42 : FP RX5 42 5 0 .int := ⟨RX5, TX5, 10, tyX5, rfl, by decide, uTX5, rfl, (tt_mem 120 (by decide +kernel) rfl), tyX5_ok, nmX5, rfl, by decide +kernel⟩
theorem fl_X1_43 : FL RX1 43 5 0 := ⟨RX5, TX5, 10, rfl, by decide, uTX5, rfl, (tt_mem 121 (by decide +kernel) rfl)⟩
theorem fp_X1_43 : FP RX1 43 5 0 .int := ⟨RX5, TX5, 10, tyX5, rfl, by decide, uTX5, rfl, (tt_mem 121 (by decide +kernel) rfl), tyX5_ok, nmX5, rfl, by decide +kernel⟩
theorem fl_X3_30 : FL RX3 30 5 0 := ⟨RX5, TX5, 10, rfl, by decide, uTX5, rfl, (tt_mem 122 (by decide +kernel) rfl)⟩
theorem fp_X3_30 : FP RX3 30 5 0 .int := ⟨RX5, TX5, 10, tyX5, rfl, by decide, uTX5, rfl, (tt_mem 122 (by decide +kernel) rfl), tyX5_ok, nmX5, rfl, by decide +kernel⟩
theorem fl_X8_180 : FL RX8 180 5 0 := ⟨RX5, TX5, 10, rfl, by decide, uTX5, rfl, (tt_mem 123 (by decide +kernel) rfl)⟩
theorem fp_X8_180 : FP RX8 180 5 0 .int := ⟨RX5, TX5, 10, tyX5, rfl, by decide, uTX5, rfl, (tt_mem 123 (by decide +kernel) rfl), tyX5_ok, nmX5, rfl, by decide +kernel⟩
theorem fl_X5_9 : FL RX5 9 5 1 := ⟨RX5, TX5, 10, rfl, by decide, uTX5, rfl, (tt_mem 124 (by decide +kernel) rfl)⟩
theorem fp_X5_9 : FP RX5 9 5 1 .int := ⟨RX5, TX5, 10, tyX5, rfl, by decide, uTX5, rfl, (tt_mem 124 (by decide +kernel) rfl), tyX5_ok, nmX5, rfl, by decide +kernel⟩
theorem fl_X1_50 : FL RX1 50 5 1 := ⟨RX5, TX5, 10, rfl, by decide, uTX5, rfl, (tt_mem 125 (by decide +kernel) rfl)⟩
theorem fp_X1_50 : FP RX1 50 5 1 .int := ⟨RX5, TX5, 10, tyX5, rfl, by decide, uTX5, rfl, (tt_mem 125 (by decide +kernel) rfl), tyX5_ok, nmX5, rfl, by decide +kernel⟩
theorem fl_X8_90 : FL RX8 90 5 1 := ⟨RX5, TX5, 10, rfl, by decide, uTX5, rfl, (tt_mem 126 (by decide +kernel) rfl)⟩
theorem fp_X8_90 : FP RX8 90 5 1 .int := ⟨RX5, TX5, 10, tyX5, rfl, by decide, uTX5, rfl, (tt_mem 126 (by decide +kernel) rfl), tyX5_ok, nmX5, rfl, by decide +kernel⟩
theorem fl_X5_15 : FL RX5 15 5 2 := ⟨RX5, TX5, 10, rfl, by decide, uTX5, rfl, (tt_mem 127 (by decide +kernel) rfl)⟩
theorem fp_X5_15 : FP RX5 15 5 2 .int := ⟨RX5, TX5, 10, tyX5, rfl, by decide, uTX5, rfl, (tt_mem 127 (by decide +kernel) rfl), tyX5_ok, nmX5, rfl, by decide +kernel⟩
theorem fl_X1_54 : FL RX1 54 5 2 := ⟨RX5, TX5, 10, rfl, by decide, uTX5, rfl, (tt_mem 128 (by decide +kernel) rfl)⟩
theorem fp_X1_54 : FP RX1 54 5 2 .int := ⟨RX5, TX5, 10, tyX5, rfl, by decide, uTX5, rfl, (tt_mem 128 (by decide +kernel) rfl), tyX5_ok, nmX5, rfl, by decide +kernel⟩
theorem fl_X8_87 : FL RX8 87 5 2 := ⟨RX5, TX5, 10, rfl, by decide, uTX5, rfl, (tt_mem 129 (by decide +kernel) rfl)⟩
theorem fp_X8_87 : FP RX8 87 5 2 .int := ⟨RX5, TX5, 10, tyX5, rfl, by decide, uTX5, rfl, (tt_mem 129 (by decide +kernel) rfl), tyX5_ok, nmX5, rfl, by decide +kernel⟩
theorem fl_X5_18 : FL RX5 18 5 3 := ⟨RX5, TX5, 10, rfl, by decide, uTX5, rfl, (tt_mem 130 (by decide +kernel) rfl)⟩
theorem fp_X5_18 : FP RX5 18 5 3 .int := ⟨RX5, TX5, 10, tyX5, rfl, by decide, uTX5, rfl, (tt_mem 130 (by decide +kernel) rfl), tyX5_ok, nmX5, rfl, by decide +kernel⟩
theorem fl_X8_80 : FL RX8 80 5 3 := ⟨RX5, TX5, 10, rfl, by decide, uTX5, rfl, (tt_mem 131 (by decide +kernel) rfl)⟩
theorem fp_X8_80 : FP RX8 80 5 3 .int := ⟨RX5, TX5, 10, tyX5, rfl, by decide, uTX5, rfl, (tt_mem 131 (by decide +kernel) rfl), tyX5_ok, nmX5, rfl, by decide +kernel⟩
theorem fl_X1_58 : FL RX1 58 5 3 := ⟨RX5, TX5, 10, rfl, by decide, uTX5, rfl, (tt_mem 132 (by decide +kernel) rfl)⟩
theorem fp_X1_58 : FP RX1 58 5 3 .int := ⟨RX5, TX5, 10, tyX5, rfl, by decide, uTX5, rfl, (tt_mem 132 (by decide +kernel) rfl), tyX5_ok, nmX5, rfl, by decide +kernel⟩
theorem fl_X5_70 : FL RX5 70 5 4 := ⟨RX5, TX5, 10, rfl, by decide, uTX5, rfl, (tt_mem 133 (by decide +kernel) rfl)⟩
theorem fp_X5_70 : FP RX5 70 5 4 .int := ⟨RX5, TX5, 10, tyX5, rfl, by decide, uTX5, rfl, (tt_mem 133 (by decide +kernel) rfl), tyX5_ok, nmX5, rfl, by decide +kernel⟩
theorem fl_X8_163 : FL RX8 163 5 4 := ⟨RX5, TX5, 10, rfl, by decide, uTX5, rfl, (tt_mem 134 (by decide +kernel) rfl)⟩
theorem fp_X8_163 : FP RX8 163 5 4 .int := ⟨RX5, TX5, 10, tyX5, rfl, by decide, uTX5, rfl, (tt_mem 134 (by decide +kernel) rfl), tyX5_ok, nmX5, rfl, by decide +kernel⟩
theorem fl_X5_73 : FL RX5 73 5 5 := ⟨RX5, TX5, 10, rfl, by decide, uTX5, rfl, (tt_mem 135 (by decide +kernel) rfl)⟩
theorem fp_X5_73 : FP RX5 73 5 5 .int := ⟨RX5, TX5, 10, tyX5, rfl, by decide, uTX5, rfl, (tt_mem 135 (by decide +kernel) rfl), tyX5_ok, nmX5, rfl, by decide +kernel⟩
theorem fl_X8_269 : FL RX8 269 5 5 := ⟨RX5, TX5, 10, rfl, by decide, uTX5, rfl, (tt_mem 136 (by decide +kernel) rfl)⟩
theorem fp_X8_269 : FP RX8 269 5 5 .int := ⟨RX5, TX5, 10, tyX5, rfl, by decide, uTX5, rfl, (tt_mem 136 (by decide +kernel) rfl), tyX5_ok, nmX5, rfl, by decide +kernel⟩
theorem fl_X5_76 : FL RX5 76 5 6 := ⟨RX5, TX5, 10, rfl, by decide, uTX5, rfl, (tt_mem 137 (by decide +kernel) rfl)⟩
theorem fp_X5_76 : FP RX5 76 5 6 .int := ⟨RX5, TX5, 10, tyX5, rfl, by decide, uTX5, rfl, (tt_mem 137 (by decide +kernel) rfl), tyX5_ok, nmX5, rfl, by decide +kernel⟩
theorem fl_X8_272 : FL RX8 272 5 6 := ⟨RX5, TX5, 10, rfl, by decide, uTX5, rfl, (tt_mem 138 (by decide +kernel) rfl)⟩
theorem fp_X8_272 : FP RX8 272 5 6 .int := ⟨RX5, TX5, 10, tyX5, rfl, by decide, uTX5, rfl, (tt_mem 138 (by decide +kernel) rfl), tyX5_ok, nmX5, rfl, by decide +kernel⟩
theorem fl_X5_24 : FL RX5 24 5 7 := ⟨RX5, TX5, 10, rfl, by decide, uTX5, rfl, (tt_mem 139 (by decide +kernel) rfl)⟩
theorem fl_X8_62 : FL RX8 62 5 7 := ⟨RX5, TX5, 10, rfl, by decide, uTX5, rfl, (tt_mem 140 (by decide +kernel) rfl)⟩
theorem fl_X1_97 : FL RX1 97 5 7 := ⟨RX5, TX5, 10, rfl, by decide, uTX5, rfl, (tt_mem 141 (by decide +kernel) rfl)⟩
theorem fl_X3_65 : FL RX3 65 5 7 := ⟨RX5, TX5, 10, rfl, by decide, uTX5, rfl, (tt_mem 142 (by decide +kernel) rfl)⟩
theorem fl_X5_31 : FL RX5 31 5 8 := ⟨RX5, TX5, 10, rfl, by decide, uTX5, rfl, (tt_mem 143 (by decide +kernel) rfl)⟩
theorem fl_X1_72 : FL RX1 72 5 8 := ⟨RX5, TX5, 10, rfl, by decide, uTX5, rfl, (tt_mem 144 (by decide +kernel) rfl)⟩
theorem fl_X8_106 : FL RX8 106 5 8 := ⟨RX5, TX5, 10, rfl, by decide, uTX5, rfl, (tt_mem 145 (by decide +kernel) rfl)⟩
theorem fl_X5_38 : FL RX5 38 5 9 := ⟨RX5, TX5, 10, rfl, by decide, uTX5, rfl, (tt_mem 146 (by decide +kernel) rfl)⟩
theorem fl_X8_166 : FL RX8 166 5 9 := ⟨RX5, TX5, 10, rfl, by decide, uTX5, rfl, (tt_mem 147 (by decide +kernel) rfl)⟩
theorem fl_X2_11 : FL RX2 11 2 0 := ⟨RX2, TX2, 2, rfl, by decide, uTX2, rfl, (tt_mem 178 (by decide +kernel) rfl)⟩
theorem fl_X2_18 : FL RX2 18 2 1 := ⟨RX2, TX2, 2, rfl, by decide, uTX2, rfl, (tt_mem 179 (by decide +kernel) rfl)⟩
theorem fp_X2_18 : FP RX2 18 2 1 .int := ⟨RX2, TX2, 2, tyX2, rfl, by decide, uTX2, rfl, (tt_mem 179 (by decide +kernel) rfl), tyX2_ok, nmX2, rfl, by decide +kernel⟩
theorem fl_X8_211 : FL RX8 211 2 1 := ⟨RX2, TX2, 2, rfl, by decide, uTX2, rfl, (tt_mem 180 (by decide +kernel) rfl)⟩
theorem fp_X8_211 : FP RX8 211 2 1 .int := ⟨RX2, TX2, 2, tyX2, rfl, by decide, uTX2, rfl, (tt_mem 180 (by decide +kernel) rfl), tyX2_ok, nmX2, rfl, by decide +kernel⟩
theorem fl_X6_9 : FL RX6 9 6 0 := ⟨RX6, TX6, 7, rfl, by decide, uTX6, rfl, (tt_mem 192 (by decide +kernel) rfl)⟩
theorem fl_X6_25 : FL RX6 25 6 1 := ⟨RX6, TX6, 7, rfl, by decide, uTX6, rfl, (tt_mem 193 (by decide +kernel) rfl)⟩
theorem fp_X6_25 : FP RX6 25 6 1 .int := ⟨RX6, TX6, 7, tyX6, rfl, by decide, uTX6, rfl, (tt_mem 193 (by decide +kernel) rfl), tyX6_ok, nmX6, rfl, by decide +kernel⟩
theorem fl_X8_193 : FL RX8 193 6 1 := ⟨RX6, TX6, 7, rfl, by decide, uTX6, rfl, (tt_mem 194 (by decide +kernel) rfl)⟩
theorem fp_X8_193 : FP RX8 193 6 1 .int := ⟨RX6, TX6, 7, tyX6, rfl, by decide, uTX6, rfl, (tt_mem 194 (by decide +kernel) rfl), tyX6_ok, nmX6, rfl, by decide +kernel⟩
theorem fl_X6_29 : FL RX6 29 6 2 := ⟨RX6, TX6, 7, rfl, by decide, uTX6, rfl, (tt_mem 195 (by decide +kernel) rfl)⟩
theorem fp_X6_29 : FP RX6 29 6 2 .int := ⟨RX6, TX6, 7, tyX6, rfl, by decide, uTX6, rfl, (tt_mem 195 (by decide +kernel) rfl), tyX6_ok, nmX6, rfl, by decide +kernel⟩
theorem fl_X8_205 : FL RX8 205 6 2 := ⟨RX6, TX6, 7, rfl, by decide, uTX6, rfl, (tt_mem 196 (by decide +kernel) rfl)⟩
theorem fp_X8_205 : FP RX8 205 6 2 .int := ⟨RX6, TX6, 7, tyX6, rfl, by decide, uTX6, rfl, (tt_mem 196 (by decide +kernel) rfl), tyX6_ok, nmX6, rfl, by decide +kernel⟩
theorem fl_X6_15 : FL RX6 15 6 3 := ⟨RX6, TX6, 7, rfl, by decide, uTX6, rfl, (tt_mem 197 (by decide +kernel) rfl)⟩
theorem fl_X8_208 : FL RX8 208 6 3 := ⟨RX6, TX6, 7, rfl, by decide, uTX6, rfl, (tt_mem 198 (by decide +kernel) rfl)⟩
theorem fl_X6_19 : FL RX6 19 6 4 := ⟨RX6, TX6, 7, rfl, by decide, uTX6, rfl, (tt_mem 199 (by decide +kernel) rfl)⟩
theorem fl_X8_209 : FL RX8 209 6 4 := ⟨RX6, TX6, 7, rfl, by decide, uTX6, rfl, (tt_mem 200 (by decide +kernel) rfl)⟩
theorem fl_X6_22 : FL RX6 22 6 5 := ⟨RX6, TX6, 7, rfl, by decide, uTX6, rfl, (tt_mem 201 (by decide +kernel) rfl)⟩
theorem fl_X8_210 : FL RX8 210 6 5 := ⟨RX6, TX6, 7, rfl, by decide, uTX6, rfl, (tt_mem 202 (by decide +kernel) rfl)⟩
theorem fl_X6_32 : FL RX6 32 6 6 := ⟨RX6, TX6, 7, rfl, by decide, uTX6, rfl, (tt_mem 203 (by decide +kernel) rfl)⟩
theorem fp_X6_32 : FP RX6 32 6 6 .int := ⟨RX6, TX6, 7, tyX6, rfl, by decide, uTX6, rfl, (tt_mem 203 (by decide +kernel) rfl), tyX6_ok, nmX6, rfl, by decide +kernel⟩
theorem fl_X1_49 : FL RX1 49 1 0 := ⟨RX1, TX1, 17, rfl, by decide, uTX1, rfl, (tt_mem 226 (by decide +kernel) rfl)⟩
theorem fp_X1_49 : FP RX1 49 1 0 .int := ⟨RX1, TX1, 17, tyX1, rfl, by decide, uTX1, rfl, (tt_mem 226 (by decide +kernel) rfl), tyX1_ok, nmX1, rfl, by decide +kernel⟩
theorem fl_X8_304 : FL RX8 304 1 0 := ⟨RX1, TX1, 17, rfl, by decide, uTX1, rfl, (tt_mem 227 (by decide +kernel) rfl)⟩
theorem fp_X8_304 : FP RX8 304 1 0 .int := ⟨RX1, TX1, 17, tyX1, rfl, by decide, uTX1, rfl, (tt_mem 227 (by decide +kernel) rfl), tyX1_ok, nmX1, rfl, by decide +kernel⟩
theorem fl_X1_53 : FL RX1 53 1 1 := ⟨RX1, TX1, 17, rfl, by decide, uTX1, rfl, (tt_mem 228 (by decide +kernel) rfl)⟩
theorem fp_X1_53 : FP RX1 53 1 1 .int := ⟨RX1, TX1, 17, tyX1, rfl, by decide, uTX1, rfl, (tt_mem 228 (by decide +kernel) rfl), tyX1_ok, nmX1, rfl, by decide +kernel⟩
theorem fl_X8_256 : FL RX8 256 1 1 := ⟨RX1, TX1, 17, rfl, by decide, uTX1, rfl, (tt_mem 229 (by decide +kernel) rfl)⟩
theorem fp_X8_256 : FP RX8 256 1 1 .int := ⟨RX1, TX1, 17, tyX1, rfl, by decide, uTX1, rfl, (tt_mem 229 (by decide +kernel) rfl), tyX1_ok, nmX1, rfl, by decide +kernel⟩
theorem fl_X1_57 : FL RX1 57 1 2 := ⟨RX1, TX1, 17, rfl, by decide, uTX1, rfl, (tt_mem 230 (by decide +kernel) rfl)⟩
theorem fp_X1_57 : FP RX1 57 1 2 .int := ⟨RX1, TX1, 17, tyX1, rfl, by decide, uTX1, rfl, (tt_mem 230 (by decide +kernel) rfl), tyX1_ok, nmX1, rfl, by decide +kernel⟩
theorem fl_X1_61 : FL RX1 61 1 3 := ⟨RX1, TX1, 17, rfl, by decide, uTX1, rfl, (tt_mem 231 (by decide +kernel) rfl)⟩
theorem fp_X1_61 : FP RX1 61 1 3 .int := ⟨RX1, TX1, 17, tyX1, rfl, by decide, uTX1, rfl, (tt_mem 231 (by decide +kernel) rfl), tyX1_ok, nmX1, rfl, by decide +kernel⟩
theorem fl_X1_63 : FL RX1 63 1 4 := ⟨RX1, TX1, 17, rfl, by decide, uTX1, rfl, (tt_mem 232 (by decide +kernel) rfl)⟩
theorem fp_X1_63 : FP RX1 63 1 4 .int := ⟨RX1, TX1, 17, tyX1, rfl, by decide, uTX1, rfl, (tt_mem 232 (by decide +kernel) rfl), tyX1_ok, nmX1, rfl, by decide +kernel⟩
theorem fl_X8_257 : FL RX8 257 1 4 := ⟨RX1, TX1, 17, rfl, by decide, uTX1, rfl, (tt_mem 233 (by decide +kernel) rfl)⟩
theorem fp_X8_257 : FP RX8 257 1 4 .int := ⟨RX1, TX1, 17, tyX1, rfl, by decide, uTX1, rfl, (tt_mem 233 (by decide +kernel) rfl), tyX1_ok, nmX1, rfl, by decide +kernel⟩
theorem fl_X1_66 : FL RX1 66 1 5 := ⟨RX1, TX1, 17, rfl, by decide, uTX1, rfl, (tt_mem 234 (by decide +kernel) rfl)⟩
theorem fp_X1_66 : FP RX1 66 1 5 .int := ⟨RX1, TX1, 17, tyX1, rfl, by decide, uTX1, rfl, (tt_mem 234 (by decide +kernel) rfl), tyX1_ok, nmX1, rfl, by decide +kernel⟩
theorem fl_X8_305 : FL RX8 305 1 5 := ⟨RX1, TX1, 17, rfl, by decide, uTX1, rfl, (tt_mem 235 (by decide +kernel) rfl)⟩
theorem fp_X8_305 : FP RX8 305 1 5 .int := ⟨RX1, TX1, 17, tyX1, rfl, by decide, uTX1, rfl, (tt_mem 235 (by decide +kernel) rfl), tyX1_ok, nmX1, rfl, by decide +kernel⟩
theorem fl_X1_69 : FL RX1 69 1 6 := ⟨RX1, TX1, 17, rfl, by decide, uTX1, rfl, (tt_mem 236 (by decide +kernel) rfl)⟩
theorem fp_X1_69 : FP RX1 69 1 6 .int := ⟨RX1, TX1, 17, tyX1, rfl, by decide, uTX1, rfl, (tt_mem 236 (by decide +kernel) rfl), tyX1_ok, nmX1, rfl, by decide +kernel⟩
theorem fl_X3_52 : FL RX3 52 1 6 := ⟨RX1, TX1, 17, rfl, by decide, uTX1, rfl, (tt_mem 237 (by decide +kernel) rfl)⟩
theorem fp_X3_52 : FP RX3 52 1 6 .int := ⟨RX1, TX1, 17, tyX1, rfl, by decide, uTX1, rfl, (tt_mem 237 (by decide +kernel) rfl), tyX1_ok, nmX1, rfl, by decide +kernel⟩
theorem fl_X8_294 : FL RX8 294 1 6 := ⟨RX1, TX1, 17, rfl, by decide, uTX1, rfl, (tt_mem 238 (by decide +kernel) rfl)⟩
theorem fp_X8_294 : FP RX8 294 1 6 .int := ⟨RX1, TX1, 17, tyX1, rfl, by decide, uTX1, rfl, (tt_mem 238 (by decide +kernel) rfl), tyX1_ok, nmX1, rfl, by decide +kernel⟩
theorem fl_X1_94 : FL RX1 94 1 7 := ⟨RX1, TX1, 17, rfl, by decide, uTX1, rfl, (tt_mem 239 (by decide +kernel) rfl)⟩
theorem fp_X1_94 : FP RX1 94 1 7 .int := ⟨RX1, TX1, 17, tyX1, rfl, by decide, uTX1, rfl, (tt_mem 239 (by decide +kernel) rfl), tyX1_ok, nmX1, rfl, by decide +kernel⟩
theorem fl_X1_11 : FL RX1 11 1 8 := ⟨RX1, TX1, 17, rfl, by decide, uTX1, rfl, (tt_mem 240 (by decide +kernel) rfl)⟩
theorem fl_X3_55 : FL RX3 55 1 8 := ⟨RX1, TX1, 17, rfl, by decide, uTX1, rfl, (tt_mem 241 (by decide +kernel) rfl)⟩
theorem fl_X8_297 : FL RX8 297 1 8 := ⟨RX1, TX1, 17, rfl, by decide, uTX1, rfl, (tt_mem 242 (by decide +kernel) rfl)⟩
theorem fl_X1_15 : FL RX1 15 1 9 := ⟨RX1, TX1, 17, rfl, by decide, uTX1, rfl, (tt_mem 243 (by decide +kernel) rfl)⟩
theorem fl_X3_59 : FL RX3 59 1 9 := ⟨RX1, TX1, 17, rfl, by decide, uTX1, rfl, (tt_mem 244 (by decide +kernel) rfl)⟩
theorem fl_X8_289 : FL RX8 289 1 9 := ⟨RX1, TX1, 17, rfl, by decide, uTX1, rfl, (tt_mem 245 (by decide +kernel) rfl)⟩
theorem fl_X1_18 : FL RX1 18 1 10 := ⟨RX1, TX1, 17, rfl, by decide, uTX1, rfl, (tt_mem 246 (by decide +kernel) rfl)⟩
theorem fl_X8_303 : FL RX8 303 1 10 := ⟨RX1, TX1, 17, rfl, by decide, uTX1, rfl, (tt_mem 247 (by decide +kernel) rfl)⟩
theorem fl_X1_21 : FL RX1 21 1 11 := ⟨RX1, TX1, 17, rfl, by decide, uTX1, rfl, (tt_mem 248 (by decide +kernel) rfl)⟩
theorem fl_X3_85 : FL RX3 85 1 11 := ⟨RX1, TX1, 17, rfl, by decide, uTX1, rfl, (tt_mem 249 (by decide +kernel) rfl)⟩
theorem fl_X8_290 : FL RX8 290 1 11 := ⟨RX1, TX1, 17, rfl, by decide, uTX1, rfl, (tt_mem 250 (by decide +kernel) rfl)⟩
theorem fl_X1_24 : FL RX1 24 1 12 := ⟨RX1, TX1, 17, rfl, by decide, uTX1, rfl, (tt_mem 251 (by decide +kernel) rfl)⟩
theorem fl_X8_292 : FL RX8 292 1 12 := ⟨RX1, TX1, 17, rfl, by decide, uTX1, rfl, (tt_mem 252 (by decide +kernel) rfl)⟩
theorem fl_X1_27 : FL RX1 27 1 13 := ⟨RX1, TX1, 17, rfl, by decide, uTX1, rfl, (tt_mem 253 (by decide +kernel) rfl)⟩
theorem fl_X1_30 : FL RX1 30 1 14 := ⟨RX1, TX1, 17, rfl, by decide, uTX1, rfl, (tt_mem 254 (by decide +kernel) rfl)⟩
theorem fl_X1_33 : FL RX1 33 1 15 := ⟨RX1, TX1, 17, rfl, by decide, uTX1, rfl, (tt_mem 255 (by decide +kernel) rfl)⟩
theorem fl_X1_36 : FL RX1 36 1 16 := ⟨RX1, TX1, 17, rfl, by decide, uTX1, rfl, (tt_mem 256 (by decide +kernel) rfl)⟩
theorem fl_X3_12 : FL RX3 12 3 0 := ⟨RX3, TX3, 4, rfl, by decide, uTX3, rfl, (tt_mem 300 (by decide +kernel) rfl)⟩
theorem fl_X3_18 : FL RX3 18 3 1 := ⟨RX3, TX3, 4, rfl, by decide, uTX3, rfl, (tt_mem 301 (by decide +kernel) rfl)⟩
theorem fl_X3_78 : FL RX3 78 3 2 := ⟨RX3, TX3, 4, rfl, by decide, uTX3, rfl, (tt_mem 302 (by decide +kernel) rfl)⟩
theorem fp_X3_78 : FP RX3 78 3 2 .int := ⟨RX3, TX3, 4, tyX3, rfl, by decide, uTX3, rfl, (tt_mem 302 (by decide +kernel) rfl), tyX3_ok, nmX3, rfl, by decide +kernel⟩
theorem fl_X8_260 : FL RX8 260 3 2 := ⟨RX3, TX3, 4, rfl, by decide, uTX3, rfl, (tt_mem 303 (by decide +kernel) rfl)⟩
theorem fp_X8_260 : FP RX8 260 3 2 .int := ⟨RX3, TX3, 4, tyX3, rfl, by decide, uTX3, rfl, (tt_mem 303 (by decide +kernel) rfl), tyX3_ok, nmX3, rfl, by decide +kernel⟩
theorem fl_X3_62 : FL RX3 62 3 3 := ⟨RX3, TX3, 4, rfl, by decide, uTX3, rfl, (tt_mem 304 (by decide +kernel) rfl)⟩
theorem fp_X3_62 : FP RX3 62 3 3 .int := ⟨RX3, TX3, 4, tyX3, rfl, by decide, uTX3, rfl, (tt_mem 304 (by decide +kernel) rfl), tyX3_ok, nmX3, rfl, by decide +kernel⟩
theorem fl_X8_263 : FL RX8 263 3 3 := ⟨RX3, TX3, 4, rfl, by decide, uTX3, rfl, (tt_mem 305 (by decide +kernel) rfl)⟩
theorem fp_X8_263 : FP RX8 263 3 3 .int := ⟨RX3, TX3, 4, tyX3, rfl, by decide, uTX3, rfl, (tt_mem 305 (by decide +kernel) rfl), tyX3_ok, nmX3, rfl, by decide +kernel⟩
theorem fl_X8_12 : FL RX8 12 8 0 := ⟨RX8, TX8, 9, rfl, by decide, uTX8, rfl, (tt_mem 316 (by decide +kernel) rfl)⟩
theorem fl_X8_16 : FL RX8 16 8 1 := ⟨RX8, TX8, 9, rfl, by decide, uTX8, rfl, (tt_mem 317 (by decide +kernel) rfl)⟩
theorem fl_X8_19 : FL RX8 19 8 2 := ⟨RX8, TX8, 9, rfl, by decide, uTX8, rfl, (tt_mem 318 (by decide +kernel) rfl)⟩
theorem fl_X8_22 : FL RX8 22 8 3 := ⟨RX8, TX8, 9, rfl, by decide, uTX8, rfl, (tt_mem 319 (by decide +kernel) rfl)⟩
theorem fp_X8_22 : FP RX8 22 8 3 .boolean := ⟨RX8, TX8, 9, tyX8, rfl, by decide, uTX8, rfl, (tt_mem 319 (by decide +kernel) rfl), tyX8_ok, nmX8, rfl, by decide +kernel⟩
theorem fl_X8_29 : FL RX8 29 8 4 := ⟨RX8, TX8, 9, rfl, by decide, uTX8, rfl, (tt_mem 320 (by decide +kernel) rfl)⟩
theorem fl_X8_36 : FL RX8 36 8 5 := ⟨RX8, TX8, 9, rfl, by decide, uTX8, rfl, (tt_mem 321 (by decide +kernel) rfl)⟩
theorem fl_X8_43 : FL RX8 43 8 6 := ⟨RX8, TX8, 9, rfl, by decide, uTX8, rfl, (tt_mem 322 (by decide +kernel) rfl)⟩
theorem fl_X8_50 : FL RX8 50 8 7 := ⟨RX8, TX8, 9, rfl, by decide, uTX8, rfl, (tt_mem 323 (by decide +kernel) rfl)⟩
theorem fl_X8_54 : FL RX8 54 8 8 := ⟨RX8, TX8, 9, rfl, by decide, uTX8, rfl, (tt_mem 324 (by decide +kernel) rfl)⟩
theorem fl_X9_7 : FL RX9 7 9 0 := ⟨RX9, TX9, 24, rfl, by decide, uTX9, rfl, (tt_mem 732 (by decide +kernel) rfl)⟩
theorem fl_X9_13 : FL RX9 13 9 1 := ⟨RX9, TX9, 24, rfl, by decide, uTX9, rfl, (tt_mem 733 (by decide +kernel) rfl)⟩
theorem fl_X9_60 : FL RX9 60 9 2 := ⟨RX9, TX9, 24, rfl, by decide, uTX9, rfl, (tt_mem 734 (by decide +kernel) rfl)⟩
theorem fp_X9_60 : FP RX9 60 9 2 .int := ⟨RX9, TX9, 24, tyX9, rfl, by decide, uTX9, rfl, (tt_mem 734 (by decide +kernel) rfl), tyX9_ok, nmX9, rfl, by decide +kernel⟩
theorem fl_X9_16 : FL RX9 16 9 3 := ⟨RX9, TX9, 24, rfl, by decide, uTX9, rfl, (tt_mem 735 (by decide +kernel) rfl)⟩
theorem fl_X9_202 : FL RX9 202 9 4 := ⟨RX9, TX9, 24, rfl, by decide, uTX9, rfl, (tt_mem 736 (by decide +kernel) rfl)⟩
theorem fp_X9_202 : FP RX9 202 9 4 .boolean := ⟨RX9, TX9, 24, tyX9, rfl, by decide, uTX9, rfl, (tt_mem 736 (by decide +kernel) rfl), tyX9_ok, nmX9, rfl, by decide +kernel⟩
theorem fl_X9_19 : FL RX9 19 9 5 := ⟨RX9, TX9, 24, rfl, by decide, uTX9, rfl, (tt_mem 737 (by decide +kernel) rfl)⟩
theorem fl_X9_22 : FL RX9 22 9 6 := ⟨RX9, TX9, 24, rfl, by decide, uTX9, rfl, (tt_mem 738 (by decide +kernel) rfl)⟩
theorem fl_X9_25 : FL RX9 25 9 7 := ⟨RX9, TX9, 24, rfl, by decide, uTX9, rfl, (tt_mem 739 (by decide +kernel) rfl)⟩
theorem fl_X9_28 : FL RX9 28 9 8 := ⟨RX9, TX9, 24, rfl, by decide, uTX9, rfl, (tt_mem 740 (by decide +kernel) rfl)⟩
theorem fl_X9_31 : FL RX9 31 9 9 := ⟨RX9, TX9, 24, rfl, by decide, uTX9, rfl, (tt_mem 741 (by decide +kernel) rfl)⟩
theorem fl_X9_66 : FL RX9 66 9 10 := ⟨RX9, TX9, 24, rfl, by decide, uTX9, rfl, (tt_mem 742 (by decide +kernel) rfl)⟩
theorem fp_X9_66 : FP RX9 66 9 10 .int := ⟨RX9, TX9, 24, tyX9, rfl, by decide, uTX9, rfl, (tt_mem 742 (by decide +kernel) rfl), tyX9_ok, nmX9, rfl, by decide +kernel⟩
theorem fl_X9_34 : FL RX9 34 9 11 := ⟨RX9, TX9, 24, rfl, by decide, uTX9, rfl, (tt_mem 743 (by decide +kernel) rfl)⟩
theorem fp_X9_34 : FP RX9 34 9 11 .int := ⟨RX9, TX9, 24, tyX9, rfl, by decide, uTX9, rfl, (tt_mem 743 (by decide +kernel) rfl), tyX9_ok, nmX9, rfl, by decide +kernel⟩
theorem fl_X9_77 : FL RX9 77 9 12 := ⟨RX9, TX9, 24, rfl, by decide, uTX9, rfl, (tt_mem 744 (by decide +kernel) rfl)⟩
theorem fp_X9_77 : FP RX9 77 9 12 .int := ⟨RX9, TX9, 24, tyX9, rfl, by decide, uTX9, rfl, (tt_mem 744 (by decide +kernel) rfl), tyX9_ok, nmX9, rfl, by decide +kernel⟩
theorem fl_X9_38 : FL RX9 38 9 13 := ⟨RX9, TX9, 24, rfl, by decide, uTX9, rfl, (tt_mem 745 (by decide +kernel) rfl)⟩
theorem fp_X9_38 : FP RX9 38 9 13 .int := ⟨RX9, TX9, 24, tyX9, rfl, by decide, uTX9, rfl, (tt_mem 745 (by decide +kernel) rfl), tyX9_ok, nmX9, rfl, by decide +kernel⟩
theorem fl_X9_41 : FL RX9 41 9 14 := ⟨RX9, TX9, 24, rfl, by decide, uTX9, rfl, (tt_mem 746 (by decide +kernel) rfl)⟩
theorem fp_X9_41 : FP RX9 41 9 14 .int := ⟨RX9, TX9, 24, tyX9, rfl, by decide, uTX9, rfl, (tt_mem 746 (by decide +kernel) rfl), tyX9_ok, nmX9, rfl, by decide +kernel⟩
theorem fl_X9_70 : FL RX9 70 9 15 := ⟨RX9, TX9, 24, rfl, by decide, uTX9, rfl, (tt_mem 747 (by decide +kernel) rfl)⟩
theorem fp_X9_70 : FP RX9 70 9 15 .int := ⟨RX9, TX9, 24, tyX9, rfl, by decide, uTX9, rfl, (tt_mem 747 (by decide +kernel) rfl), tyX9_ok, nmX9, rfl, by decide +kernel⟩
theorem fl_X9_97 : FL RX9 97 9 16 := ⟨RX9, TX9, 24, rfl, by decide, uTX9, rfl, (tt_mem 748 (by decide +kernel) rfl)⟩
theorem fp_X9_97 : FP RX9 97 9 16 .int := ⟨RX9, TX9, 24, tyX9, rfl, by decide, uTX9, rfl, (tt_mem 748 (by decide +kernel) rfl), tyX9_ok, nmX9, rfl, by decide +kernel⟩
theorem fl_X9_44 : FL RX9 44 9 17 := ⟨RX9, TX9, 24, rfl, by decide, uTX9, rfl, (tt_mem 749 (by decide +kernel) rfl)⟩
theorem fl_X9_168 : FL RX9 168 9 18 := ⟨RX9, TX9, 24, rfl, by decide, uTX9, rfl, (tt_mem 750 (by decide +kernel) rfl)⟩
theorem fp_X9_168 : FP RX9 168 9 18 .int := ⟨RX9, TX9, 24, tyX9, rfl, by decide, uTX9, rfl, (tt_mem 750 (by decide +kernel) rfl), tyX9_ok, nmX9, rfl, by decide +kernel⟩
theorem fl_X9_48 : FL RX9 48 9 19 := ⟨RX9, TX9, 24, rfl, by decide, uTX9, rfl, (tt_mem 751 (by decide +kernel) rfl)⟩
theorem fl_X9_171 : FL RX9 171 9 20 := ⟨RX9, TX9, 24, rfl, by decide, uTX9, rfl, (tt_mem 752 (by decide +kernel) rfl)⟩
theorem fp_X9_171 : FP RX9 171 9 20 .int := ⟨RX9, TX9, 24, tyX9, rfl, by decide, uTX9, rfl, (tt_mem 752 (by decide +kernel) rfl), tyX9_ok, nmX9, rfl, by decide +kernel⟩
theorem fl_X9_178 : FL RX9 178 9 21 := ⟨RX9, TX9, 24, rfl, by decide, uTX9, rfl, (tt_mem 753 (by decide +kernel) rfl)⟩
theorem fp_X9_178 : FP RX9 178 9 21 .int := ⟨RX9, TX9, 24, tyX9, rfl, by decide, uTX9, rfl, (tt_mem 753 (by decide +kernel) rfl), tyX9_ok, nmX9, rfl, by decide +kernel⟩
theorem fl_X9_184 : FL RX9 184 9 22 := ⟨RX9, TX9, 24, rfl, by decide, uTX9, rfl, (tt_mem 754 (by decide +kernel) rfl)⟩
theorem fp_X9_184 : FP RX9 184 9 22 .int := ⟨RX9, TX9, 24, tyX9, rfl, by decide, uTX9, rfl, (tt_mem 754 (by decide +kernel) rfl), tyX9_ok, nmX9, rfl, by decide +kernel⟩
theorem fl_X9_190 : FL RX9 190 9 23 := ⟨RX9, TX9, 24, rfl, by decide, uTX9, rfl, (tt_mem 755 (by decide +kernel) rfl)⟩
theorem fp_X9_190 : FP RX9 190 9 23 .int := ⟨RX9, TX9, 24, tyX9, rfl, by decide, uTX9, rfl, (tt_mem 755 (by decide +kernel) rfl), tyX9_ok, nmX9, rfl, by decide +kernel⟩
theorem ct_X1_62 : Cond.constant RX1 62 (1000000) ∈ TT := (tt_mem 404 (by decide +kernel) rfl)
theorem ct_X9_69 : Cond.constant RX9 69 (99999) ∈ TT := (tt_mem 836 (by decide +kernel) rfl)
theorem lk_L_13 : LkV RL 13 yX8_addRecipe cX8_addRecipe 6 (some .int) 4 := ⟨(tt_mem 344 (by decide +kernel) rfl), (tt_mem 345 (by decide +kernel) rfl), (tt_mem 346 (by decide +kernel) rfl), (tt_mem 1 (by decide +kernel) rfl), (tt_mem 347 (by decide +kernel) rfl), by decide +kernel⟩
theorem lk_X8_58 : LkS RX8 58 yX8_within cX8_within 3 (some .boolean) 3 := ⟨(tt_mem 348 (by decide +kernel) rfl), (tt_mem 349 (by decide +kernel) rfl), rfl, (tt_mem 1 (by decide +kernel) rfl), (tt_mem 350 (by decide +kernel) rfl), by decide +kernel⟩
theorem lk_X8_72 : LkV RX8 72 yX2_push cX2_push 3 none 1 := ⟨(tt_mem 351 (by decide +kernel) rfl), (tt_mem 352 (by decide +kernel) rfl), (tt_mem 353 (by decide +kernel) rfl), (tt_mem 6 (by decide +kernel) rfl), (tt_mem 354 (by decide +kernel) rfl), by decide +kernel⟩
theorem lk_X2_22 : LkV RX2 22 yX2_dropOldest cX2_dropOldest 3 none 0 := ⟨(tt_mem 355 (by decide +kernel) rfl), (tt_mem 357 (by decide +kernel) rfl), (tt_sel 0 (q := (yX2_dropOldest, 2)) (by decide +kernel)), (tt_mem 6 (by decide +kernel) rfl), (tt_mem 358 (by decide +kernel) rfl), by decide +kernel⟩
theorem lk_X2_25 : LkV RX2 25 yX5_copyFrom cX5_copyFrom 2 none 1 := ⟨(tt_mem 359 (by decide +kernel) rfl), (tt_mem 360 (by decide +kernel) rfl), (tt_mem 361 (by decide +kernel) rfl), (tt_mem 2 (by decide +kernel) rfl), (tt_mem 362 (by decide +kernel) rfl), by decide +kernel⟩
theorem lk_X5_79 : LkV RX5 79 yX4_copyFrom cX4_copyFrom 2 none 1 := ⟨(tt_mem 363 (by decide +kernel) rfl), (tt_mem 364 (by decide +kernel) rfl), (tt_mem 365 (by decide +kernel) rfl), (tt_mem 3 (by decide +kernel) rfl), (tt_mem 366 (by decide +kernel) rfl), by decide +kernel⟩
theorem mc_X4_32 : MCp RX4 32 := ⟨(tt_mem 367 (by decide +kernel) rfl), (tt_mem 369 (by decide +kernel) rfl), (tt_mem 368 (by decide +kernel) rfl), (tt_mem 11 (by decide +kernel) rfl)⟩
theorem lk_X5_83 : LkV RX5 83 yX0_copyFrom cX0_copyFrom 2 none 1 := ⟨(tt_mem 370 (by decide +kernel) rfl), (tt_mem 371 (by decide +kernel) rfl), (tt_mem 372 (by decide +kernel) rfl), (tt_mem 4 (by decide +kernel) rfl), (tt_mem 373 (by decide +kernel) rfl), by decide +kernel⟩
theorem mc_X0_35 : MCp RX0 35 := ⟨(tt_mem 374 (by decide +kernel) rfl), (tt_mem 369 (by decide +kernel) rfl), (tt_mem 368 (by decide +kernel) rfl), (tt_mem 11 (by decide +kernel) rfl)⟩
theorem lk_X5_86 : LkV RX5 86 yX7_copyFrom cX7_copyFrom 2 none 1 := ⟨(tt_mem 375 (by decide +kernel) rfl), (tt_mem 376 (by decide +kernel) rfl), (tt_mem 377 (by decide +kernel) rfl), (tt_mem 5 (by decide +kernel) rfl), (tt_mem 378 (by decide +kernel) rfl), by decide +kernel⟩
theorem mc_X7_33 : MCp RX7 33 := ⟨(tt_mem 379 (by decide +kernel) rfl), (tt_mem 369 (by decide +kernel) rfl), (tt_mem 368 (by decide +kernel) rfl), (tt_mem 11 (by decide +kernel) rfl)⟩
theorem lk_X8_76 : LkV RX8 76 yX4_append cX4_append 5 (some .int) 4 := ⟨(tt_mem 380 (by decide +kernel) rfl), (tt_mem 381 (by decide +kernel) rfl), (tt_mem 382 (by decide +kernel) rfl), (tt_mem 3 (by decide +kernel) rfl), (tt_mem 383 (by decide +kernel) rfl), by decide +kernel⟩
theorem lk_L_18 : LkV RL 18 yX8_setHeat cX8_setHeat 2 (some .int) 1 := ⟨(tt_mem 384 (by decide +kernel) rfl), (tt_mem 385 (by decide +kernel) rfl), (tt_mem 386 (by decide +kernel) rfl), (tt_mem 1 (by decide +kernel) rfl), (tt_mem 387 (by decide +kernel) rfl), by decide +kernel⟩
theorem lk_X8_83 : LkV RX8 83 yX8_countDoomed cX8_countDoomed 1 (some .int) 0 := ⟨(tt_mem 388 (by decide +kernel) rfl), (tt_mem 390 (by decide +kernel) rfl), (tt_sel 1 (q := (yX8_countDoomed, 9)) (by decide +kernel)), (tt_mem 1 (by decide +kernel) rfl), (tt_mem 391 (by decide +kernel) rfl), by decide +kernel⟩
theorem lk_X8_277 : LkV RX8 277 yX8_forecastToEnd cX8_forecastToEnd 1 none 0 := ⟨(tt_mem 392 (by decide +kernel) rfl), (tt_mem 394 (by decide +kernel) rfl), (tt_sel 2 (q := (yX8_forecastToEnd, 9)) (by decide +kernel)), (tt_mem 1 (by decide +kernel) rfl), (tt_mem 395 (by decide +kernel) rfl), by decide +kernel⟩
theorem lk_X8_183 : LkV RX8 183 yX1_begin cX1_begin 2 none 1 := ⟨(tt_mem 396 (by decide +kernel) rfl), (tt_mem 397 (by decide +kernel) rfl), (tt_mem 398 (by decide +kernel) rfl), (tt_mem 8 (by decide +kernel) rfl), (tt_mem 399 (by decide +kernel) rfl), by decide +kernel⟩
theorem lk_X1_39 : LkV RX1 39 yX1_beginWith cX1_beginWith 6 none 4 := ⟨(tt_mem 400 (by decide +kernel) rfl), (tt_mem 401 (by decide +kernel) rfl), (tt_mem 402 (by decide +kernel) rfl), (tt_mem 8 (by decide +kernel) rfl), (tt_mem 403 (by decide +kernel) rfl), by decide +kernel⟩
theorem lk_X1_81 : LkV RX1 81 yX0_isOpen cX0_isOpen 2 (some .boolean) 1 := ⟨(tt_mem 405 (by decide +kernel) rfl), (tt_mem 406 (by decide +kernel) rfl), (tt_mem 407 (by decide +kernel) rfl), (tt_mem 4 (by decide +kernel) rfl), (tt_mem 408 (by decide +kernel) rfl), by decide +kernel⟩
theorem lk_X0_31 : LkV RX0 31 yX0_has cX0_has 2 (some .boolean) 1 := ⟨(tt_mem 409 (by decide +kernel) rfl), (tt_mem 410 (by decide +kernel) rfl), (tt_mem 411 (by decide +kernel) rfl), (tt_mem 4 (by decide +kernel) rfl), (tt_mem 412 (by decide +kernel) rfl), by decide +kernel⟩
theorem lk_X1_91 : LkV RX1 91 yX1_addRow cX1_addRow 6 none 4 := ⟨(tt_mem 413 (by decide +kernel) rfl), (tt_mem 415 (by decide +kernel) rfl), (tt_sel 3 (q := (yX1_addRow, 17)) (by decide +kernel)), (tt_mem 8 (by decide +kernel) rfl), (tt_mem 416 (by decide +kernel) rfl), by decide +kernel⟩
theorem lk_X1_101 : LkV RX1 101 yX4_has cX4_has 2 (some .boolean) 1 := ⟨(tt_mem 417 (by decide +kernel) rfl), (tt_mem 418 (by decide +kernel) rfl), (tt_mem 419 (by decide +kernel) rfl), (tt_mem 3 (by decide +kernel) rfl), (tt_mem 420 (by decide +kernel) rfl), by decide +kernel⟩
theorem lk_X1_106 : LkV RX1 106 yX0_has cX0_has 2 (some .boolean) 1 := ⟨(tt_mem 421 (by decide +kernel) rfl), (tt_mem 410 (by decide +kernel) rfl), (tt_mem 411 (by decide +kernel) rfl), (tt_mem 4 (by decide +kernel) rfl), (tt_mem 412 (by decide +kernel) rfl), by decide +kernel⟩
theorem lk_X8_274 : LkV RX8 274 yX1_passToEnd cX1_passToEnd 2 none 0 := ⟨(tt_mem 422 (by decide +kernel) rfl), (tt_mem 423 (by decide +kernel) rfl), (tt_mem 424 (by decide +kernel) rfl), (tt_mem 8 (by decide +kernel) rfl), (tt_mem 425 (by decide +kernel) rfl), by decide +kernel⟩
theorem lk_X1_114 : LkV RX1 114 yX1_passTick cX1_passTick 2 none 0 := ⟨(tt_mem 426 (by decide +kernel) rfl), (tt_mem 428 (by decide +kernel) rfl), (tt_sel 4 (q := (yX1_passTick, 17)) (by decide +kernel)), (tt_mem 8 (by decide +kernel) rfl), (tt_mem 429 (by decide +kernel) rfl), by decide +kernel⟩
theorem mm_X1_117 : MMn RX1 117 := ⟨(tt_mem 430 (by decide +kernel) rfl), (tt_mem 431 (by decide +kernel) rfl), (tt_mem 12 (by decide +kernel) rfl), (tt_mem 432 (by decide +kernel) rfl)⟩
theorem lk_X1_123 : LkV RX1 123 yX1_drawFor cX1_drawFor 4 none 1 := ⟨(tt_mem 433 (by decide +kernel) rfl), (tt_mem 435 (by decide +kernel) rfl), (tt_sel 5 (q := (yX1_drawFor, 17)) (by decide +kernel)), (tt_mem 8 (by decide +kernel) rfl), (tt_mem 436 (by decide +kernel) rfl), by decide +kernel⟩
theorem lk_X8_280 : LkV RX8 280 yX1_countSpoiled cX1_countSpoiled 3 (some .int) 0 := ⟨(tt_mem 437 (by decide +kernel) rfl), (tt_mem 438 (by decide +kernel) rfl), (tt_mem 439 (by decide +kernel) rfl), (tt_mem 8 (by decide +kernel) rfl), (tt_mem 440 (by decide +kernel) rfl), by decide +kernel⟩
theorem lk_L_23 : LkV RL 23 yX8_setMost cX8_setMost 2 (some .int) 1 := ⟨(tt_mem 441 (by decide +kernel) rfl), (tt_mem 442 (by decide +kernel) rfl), (tt_mem 443 (by decide +kernel) rfl), (tt_mem 1 (by decide +kernel) rfl), (tt_mem 444 (by decide +kernel) rfl), by decide +kernel⟩
theorem mm_X8_93 : MMn RX8 93 := ⟨(tt_mem 445 (by decide +kernel) rfl), (tt_mem 431 (by decide +kernel) rfl), (tt_mem 12 (by decide +kernel) rfl), (tt_mem 432 (by decide +kernel) rfl)⟩
theorem lk_L_27 : LkV RL 27 yX8_fall cX8_fall 2 (some .int) 1 := ⟨(tt_mem 446 (by decide +kernel) rfl), (tt_mem 447 (by decide +kernel) rfl), (tt_mem 448 (by decide +kernel) rfl), (tt_mem 1 (by decide +kernel) rfl), (tt_mem 449 (by decide +kernel) rfl), by decide +kernel⟩
theorem mm_X8_99 : MMx RX8 99 := ⟨(tt_mem 450 (by decide +kernel) rfl), (tt_mem 451 (by decide +kernel) rfl), (tt_mem 12 (by decide +kernel) rfl), (tt_mem 452 (by decide +kernel) rfl)⟩
theorem lk_L_31 : LkV RL 31 yX8_book cX8_book 5 (some .int) 3 := ⟨(tt_mem 453 (by decide +kernel) rfl), (tt_mem 454 (by decide +kernel) rfl), (tt_mem 455 (by decide +kernel) rfl), (tt_mem 1 (by decide +kernel) rfl), (tt_mem 456 (by decide +kernel) rfl), by decide +kernel⟩
theorem lk_X8_102 : LkV RX8 102 yX8_errorOfBooking cX8_errorOfBooking 4 (some .int) 3 := ⟨(tt_mem 457 (by decide +kernel) rfl), (tt_mem 459 (by decide +kernel) rfl), (tt_sel 6 (q := (yX8_errorOfBooking, 9)) (by decide +kernel)), (tt_mem 1 (by decide +kernel) rfl), (tt_mem 460 (by decide +kernel) rfl), by decide +kernel⟩
theorem lk_X8_154 : LkS RX8 154 yX8_isRobot cX8_isRobot 1 (some .boolean) 1 := ⟨(tt_mem 461 (by decide +kernel) rfl), (tt_mem 462 (by decide +kernel) rfl), rfl, (tt_mem 1 (by decide +kernel) rfl), (tt_mem 463 (by decide +kernel) rfl), by decide +kernel⟩
theorem lk_X8_157 : LkV RX8 157 yX4_has cX4_has 2 (some .boolean) 1 := ⟨(tt_mem 464 (by decide +kernel) rfl), (tt_mem 418 (by decide +kernel) rfl), (tt_mem 419 (by decide +kernel) rfl), (tt_mem 3 (by decide +kernel) rfl), (tt_mem 420 (by decide +kernel) rfl), by decide +kernel⟩
theorem lk_X8_128 : LkV RX8 128 yX5_canStart cX5_canStart 2 (some .boolean) 1 := ⟨(tt_mem 465 (by decide +kernel) rfl), (tt_mem 466 (by decide +kernel) rfl), (tt_mem 467 (by decide +kernel) rfl), (tt_mem 2 (by decide +kernel) rfl), (tt_mem 468 (by decide +kernel) rfl), by decide +kernel⟩
theorem lk_X8_137 : LkV RX8 137 yX3_reasonAgainst cX3_reasonAgainst 6 (some .int) 5 := ⟨(tt_mem 469 (by decide +kernel) rfl), (tt_mem 470 (by decide +kernel) rfl), (tt_mem 471 (by decide +kernel) rfl), (tt_mem 9 (by decide +kernel) rfl), (tt_mem 472 (by decide +kernel) rfl), by decide +kernel⟩
theorem lk_X3_22 : LkV RX3 22 yX3_forecastWithout cX3_forecastWithout 5 none 2 := ⟨(tt_mem 473 (by decide +kernel) rfl), (tt_mem 475 (by decide +kernel) rfl), (tt_sel 7 (q := (yX3_forecastWithout, 4)) (by decide +kernel)), (tt_mem 9 (by decide +kernel) rfl), (tt_mem 476 (by decide +kernel) rfl), by decide +kernel⟩
theorem lk_X3_45 : LkV RX3 45 yX1_beginWith cX1_beginWith 6 none 4 := ⟨(tt_mem 477 (by decide +kernel) rfl), (tt_mem 401 (by decide +kernel) rfl), (tt_mem 402 (by decide +kernel) rfl), (tt_mem 8 (by decide +kernel) rfl), (tt_mem 403 (by decide +kernel) rfl), by decide +kernel⟩
theorem lk_X3_49 : LkV RX3 49 yX1_passToEnd cX1_passToEnd 2 none 0 := ⟨(tt_mem 478 (by decide +kernel) rfl), (tt_mem 423 (by decide +kernel) rfl), (tt_mem 424 (by decide +kernel) rfl), (tt_mem 8 (by decide +kernel) rfl), (tt_mem 425 (by decide +kernel) rfl), by decide +kernel⟩
theorem lk_X3_26 : LkV RX3 26 yX3_reasonNow cX3_reasonNow 7 (some .int) 5 := ⟨(tt_mem 479 (by decide +kernel) rfl), (tt_mem 481 (by decide +kernel) rfl), (tt_sel 8 (q := (yX3_reasonNow, 4)) (by decide +kernel)), (tt_mem 9 (by decide +kernel) rfl), (tt_mem 482 (by decide +kernel) rfl), by decide +kernel⟩
theorem lk_X3_69 : LkV RX3 69 yX4_lastBusy cX4_lastBusy 3 (some .int) 2 := ⟨(tt_mem 483 (by decide +kernel) rfl), (tt_mem 484 (by decide +kernel) rfl), (tt_mem 485 (by decide +kernel) rfl), (tt_mem 3 (by decide +kernel) rfl), (tt_mem 486 (by decide +kernel) rfl), by decide +kernel⟩
theorem lk_X4_28 : LkV RX4 28 yX4_has cX4_has 2 (some .boolean) 1 := ⟨(tt_mem 487 (by decide +kernel) rfl), (tt_mem 418 (by decide +kernel) rfl), (tt_mem 419 (by decide +kernel) rfl), (tt_mem 3 (by decide +kernel) rfl), (tt_mem 420 (by decide +kernel) rfl), by decide +kernel⟩
theorem lk_X3_74 : LkV RX3 74 yX5_firstMeeting cX5_firstMeeting 6 (some .int) 4 := ⟨(tt_mem 488 (by decide +kernel) rfl), (tt_mem 489 (by decide +kernel) rfl), (tt_mem 490 (by decide +kernel) rfl), (tt_mem 2 (by decide +kernel) rfl), (tt_mem 491 (by decide +kernel) rfl), by decide +kernel⟩
theorem lk_X5_48 : LkV RX5 48 yX0_keepsBusy cX0_keepsBusy 3 (some .boolean) 2 := ⟨(tt_mem 492 (by decide +kernel) rfl), (tt_mem 493 (by decide +kernel) rfl), (tt_mem 494 (by decide +kernel) rfl), (tt_mem 4 (by decide +kernel) rfl), (tt_mem 495 (by decide +kernel) rfl), by decide +kernel⟩
theorem lk_X5_59 : LkV RX5 59 yX4_lastBusy cX4_lastBusy 3 (some .int) 2 := ⟨(tt_mem 496 (by decide +kernel) rfl), (tt_mem 484 (by decide +kernel) rfl), (tt_mem 485 (by decide +kernel) rfl), (tt_mem 3 (by decide +kernel) rfl), (tt_mem 486 (by decide +kernel) rfl), by decide +kernel⟩
theorem lk_X3_81 : LkV RX3 81 yX1_rowOf cX1_rowOf 3 (some .int) 1 := ⟨(tt_mem 497 (by decide +kernel) rfl), (tt_mem 498 (by decide +kernel) rfl), (tt_mem 499 (by decide +kernel) rfl), (tt_mem 8 (by decide +kernel) rfl), (tt_mem 500 (by decide +kernel) rfl), by decide +kernel⟩
theorem lk_X3_87 : LkV RX3 87 yX3_reasonByOthers cX3_reasonByOthers 4 (some .int) 1 := ⟨(tt_mem 501 (by decide +kernel) rfl), (tt_mem 503 (by decide +kernel) rfl), (tt_sel 9 (q := (yX3_reasonByOthers, 4)) (by decide +kernel)), (tt_mem 9 (by decide +kernel) rfl), (tt_mem 504 (by decide +kernel) rfl), by decide +kernel⟩
theorem lk_X3_90 : LkV RX3 90 yX3_wasDoomed cX3_wasDoomed 2 (some .boolean) 1 := ⟨(tt_mem 505 (by decide +kernel) rfl), (tt_mem 507 (by decide +kernel) rfl), (tt_sel 10 (q := (yX3_wasDoomed, 4)) (by decide +kernel)), (tt_mem 9 (by decide +kernel) rfl), (tt_mem 508 (by decide +kernel) rfl), by decide +kernel⟩
theorem lk_X8_141 : LkS RX8 141 yX8_errorOf cX8_errorOf 1 (some .int) 1 := ⟨(tt_mem 509 (by decide +kernel) rfl), (tt_mem 510 (by decide +kernel) rfl), rfl, (tt_mem 1 (by decide +kernel) rfl), (tt_mem 511 (by decide +kernel) rfl), by decide +kernel⟩
theorem lk_X8_110 : LkV RX8 110 yX0_append cX0_append 4 (some .int) 3 := ⟨(tt_mem 512 (by decide +kernel) rfl), (tt_mem 513 (by decide +kernel) rfl), (tt_mem 514 (by decide +kernel) rfl), (tt_mem 4 (by decide +kernel) rfl), (tt_mem 515 (by decide +kernel) rfl), by decide +kernel⟩
theorem lk_L_36 : LkV RL 36 yX8_cancel cX8_cancel 2 (some .int) 1 := ⟨(tt_mem 516 (by decide +kernel) rfl), (tt_mem 517 (by decide +kernel) rfl), (tt_mem 518 (by decide +kernel) rfl), (tt_mem 1 (by decide +kernel) rfl), (tt_mem 519 (by decide +kernel) rfl), by decide +kernel⟩
theorem lk_X8_114 : LkV RX8 114 yX0_has cX0_has 2 (some .boolean) 1 := ⟨(tt_mem 520 (by decide +kernel) rfl), (tt_mem 410 (by decide +kernel) rfl), (tt_mem 411 (by decide +kernel) rfl), (tt_mem 4 (by decide +kernel) rfl), (tt_mem 412 (by decide +kernel) rfl), by decide +kernel⟩
theorem lk_X8_118 : LkV RX8 118 yX0_isOpen cX0_isOpen 2 (some .boolean) 1 := ⟨(tt_mem 521 (by decide +kernel) rfl), (tt_mem 406 (by decide +kernel) rfl), (tt_mem 407 (by decide +kernel) rfl), (tt_mem 4 (by decide +kernel) rfl), (tt_mem 408 (by decide +kernel) rfl), by decide +kernel⟩
theorem lk_X8_125 : LkV RX8 125 yX8_tryWishes cX8_tryWishes 10 (some .int) 0 := ⟨(tt_mem 522 (by decide +kernel) rfl), (tt_mem 524 (by decide +kernel) rfl), (tt_sel 11 (q := (yX8_tryWishes, 9)) (by decide +kernel)), (tt_mem 1 (by decide +kernel) rfl), (tt_mem 525 (by decide +kernel) rfl), by decide +kernel⟩
theorem lk_X8_174 : LkV RX8 174 yX7_has cX7_has 2 (some .boolean) 1 := ⟨(tt_mem 526 (by decide +kernel) rfl), (tt_mem 527 (by decide +kernel) rfl), (tt_mem 528 (by decide +kernel) rfl), (tt_mem 5 (by decide +kernel) rfl), (tt_mem 529 (by decide +kernel) rfl), by decide +kernel⟩
theorem lk_X8_159 : LkV RX8 159 yX3_firstFit cX3_firstFit 10 (some .int) 6 := ⟨(tt_mem 530 (by decide +kernel) rfl), (tt_mem 531 (by decide +kernel) rfl), (tt_mem 532 (by decide +kernel) rfl), (tt_mem 9 (by decide +kernel) rfl), (tt_mem 533 (by decide +kernel) rfl), by decide +kernel⟩
theorem mm_X3_36 : MMx RX3 36 := ⟨(tt_mem 534 (by decide +kernel) rfl), (tt_mem 451 (by decide +kernel) rfl), (tt_mem 12 (by decide +kernel) rfl), (tt_mem 452 (by decide +kernel) rfl)⟩
theorem mm_X3_42 : MMn RX3 42 := ⟨(tt_mem 535 (by decide +kernel) rfl), (tt_mem 431 (by decide +kernel) rfl), (tt_mem 12 (by decide +kernel) rfl), (tt_mem 432 (by decide +kernel) rfl)⟩
theorem lk_X8_176 : LkV RX8 176 yX7_takeOut cX7_takeOut 3 none 1 := ⟨(tt_mem 536 (by decide +kernel) rfl), (tt_mem 537 (by decide +kernel) rfl), (tt_mem 538 (by decide +kernel) rfl), (tt_mem 5 (by decide +kernel) rfl), (tt_mem 539 (by decide +kernel) rfl), by decide +kernel⟩
theorem lk_X7_25 : LkV RX7 25 yX7_has cX7_has 2 (some .boolean) 1 := ⟨(tt_mem 540 (by decide +kernel) rfl), (tt_mem 527 (by decide +kernel) rfl), (tt_mem 528 (by decide +kernel) rfl), (tt_mem 5 (by decide +kernel) rfl), (tt_mem 529 (by decide +kernel) rfl), by decide +kernel⟩
theorem lk_L_40 : LkV RL 40 yX8_move cX8_move 8 (some .int) 2 := ⟨(tt_mem 541 (by decide +kernel) rfl), (tt_mem 542 (by decide +kernel) rfl), (tt_mem 543 (by decide +kernel) rfl), (tt_mem 1 (by decide +kernel) rfl), (tt_mem 544 (by decide +kernel) rfl), by decide +kernel⟩
theorem lk_L_45 : LkV RL 45 yX8_repair cX8_repair 4 (some .int) 0 := ⟨(tt_mem 545 (by decide +kernel) rfl), (tt_mem 546 (by decide +kernel) rfl), (tt_mem 547 (by decide +kernel) rfl), (tt_mem 1 (by decide +kernel) rfl), (tt_mem 548 (by decide +kernel) rfl), by decide +kernel⟩
theorem lk_X8_148 : LkV RX8 148 yX8_firstToRepair cX8_firstToRepair 3 (some .int) 0 := ⟨(tt_mem 549 (by decide +kernel) rfl), (tt_mem 551 (by decide +kernel) rfl), (tt_sel 12 (q := (yX8_firstToRepair, 9)) (by decide +kernel)), (tt_mem 1 (by decide +kernel) rfl), (tt_mem 552 (by decide +kernel) rfl), by decide +kernel⟩
theorem lk_X8_286 : LkV RX8 286 yX0_stateOf cX0_stateOf 2 (some .int) 1 := ⟨(tt_mem 553 (by decide +kernel) rfl), (tt_mem 554 (by decide +kernel) rfl), (tt_mem 555 (by decide +kernel) rfl), (tt_mem 4 (by decide +kernel) rfl), (tt_mem 556 (by decide +kernel) rfl), by decide +kernel⟩
theorem lk_X8_300 : LkV RX8 300 yX8_wasRepaired cX8_wasRepaired 2 (some .boolean) 1 := ⟨(tt_mem 557 (by decide +kernel) rfl), (tt_mem 559 (by decide +kernel) rfl), (tt_sel 13 (q := (yX8_wasRepaired, 9)) (by decide +kernel)), (tt_mem 1 (by decide +kernel) rfl), (tt_mem 560 (by decide +kernel) rfl), by decide +kernel⟩
theorem lk_X8_151 : LkV RX8 151 yX8_moveLaterOrCancel cX8_moveLaterOrCancel 4 (some .boolean) 1 := ⟨(tt_mem 561 (by decide +kernel) rfl), (tt_mem 563 (by decide +kernel) rfl), (tt_sel 14 (q := (yX8_moveLaterOrCancel, 9)) (by decide +kernel)), (tt_mem 1 (by decide +kernel) rfl), (tt_mem 564 (by decide +kernel) rfl), by decide +kernel⟩
theorem lk_L_50 : LkV RL 50 yX8_wish cX8_wish 5 (some .int) 3 := ⟨(tt_mem 565 (by decide +kernel) rfl), (tt_mem 566 (by decide +kernel) rfl), (tt_mem 567 (by decide +kernel) rfl), (tt_mem 1 (by decide +kernel) rfl), (tt_mem 568 (by decide +kernel) rfl), by decide +kernel⟩
theorem lk_X8_173 : LkV RX8 173 yX7_append cX7_append 4 (some .int) 3 := ⟨(tt_mem 569 (by decide +kernel) rfl), (tt_mem 570 (by decide +kernel) rfl), (tt_mem 571 (by decide +kernel) rfl), (tt_mem 5 (by decide +kernel) rfl), (tt_mem 572 (by decide +kernel) rfl), by decide +kernel⟩
theorem lk_L_54 : LkV RL 54 yX8_unwish cX8_unwish 3 (some .int) 1 := ⟨(tt_mem 573 (by decide +kernel) rfl), (tt_mem 574 (by decide +kernel) rfl), (tt_mem 575 (by decide +kernel) rfl), (tt_mem 1 (by decide +kernel) rfl), (tt_mem 576 (by decide +kernel) rfl), by decide +kernel⟩
theorem lk_L_58 : LkV RL 58 yX8_pass cX8_pass 2 (some .int) 1 := ⟨(tt_mem 577 (by decide +kernel) rfl), (tt_mem 578 (by decide +kernel) rfl), (tt_mem 579 (by decide +kernel) rfl), (tt_mem 1 (by decide +kernel) rfl), (tt_mem 580 (by decide +kernel) rfl), by decide +kernel⟩
theorem lk_X8_186 : LkV RX8 186 yX1_passTicks cX1_passTicks 3 none 1 := ⟨(tt_mem 581 (by decide +kernel) rfl), (tt_mem 582 (by decide +kernel) rfl), (tt_mem 583 (by decide +kernel) rfl), (tt_mem 8 (by decide +kernel) rfl), (tt_mem 584 (by decide +kernel) rfl), by decide +kernel⟩
theorem lk_X8_189 : LkV RX8 189 yX8_takeOver cX8_takeOver 5 (some .int) 1 := ⟨(tt_mem 585 (by decide +kernel) rfl), (tt_mem 587 (by decide +kernel) rfl), (tt_sel 15 (q := (yX8_takeOver, 9)) (by decide +kernel)), (tt_mem 1 (by decide +kernel) rfl), (tt_mem 588 (by decide +kernel) rfl), by decide +kernel⟩
theorem lk_X8_308 : LkV RX8 308 yX7_dropUntil cX7_dropUntil 4 (some .int) 1 := ⟨(tt_mem 589 (by decide +kernel) rfl), (tt_mem 590 (by decide +kernel) rfl), (tt_mem 591 (by decide +kernel) rfl), (tt_mem 5 (by decide +kernel) rfl), (tt_mem 592 (by decide +kernel) rfl), by decide +kernel⟩
theorem lk_X7_29 : LkV RX7 29 yX7_takeOut cX7_takeOut 3 none 1 := ⟨(tt_mem 593 (by decide +kernel) rfl), (tt_mem 537 (by decide +kernel) rfl), (tt_mem 538 (by decide +kernel) rfl), (tt_mem 5 (by decide +kernel) rfl), (tt_mem 539 (by decide +kernel) rfl), by decide +kernel⟩
theorem lk_L_62 : LkV RL 62 yX8_type cX8_type 2 (some .int) 1 := ⟨(tt_mem 594 (by decide +kernel) rfl), (tt_mem 595 (by decide +kernel) rfl), (tt_mem 596 (by decide +kernel) rfl), (tt_mem 1 (by decide +kernel) rfl), (tt_mem 597 (by decide +kernel) rfl), by decide +kernel⟩
theorem lk_X8_196 : LkV RX8 196 yX6_append cX6_append 2 (some .int) 1 := ⟨(tt_mem 598 (by decide +kernel) rfl), (tt_mem 599 (by decide +kernel) rfl), (tt_mem 600 (by decide +kernel) rfl), (tt_mem 7 (by decide +kernel) rfl), (tt_mem 601 (by decide +kernel) rfl), by decide +kernel⟩
theorem lk_L_67 : LkV RL 67 yX8_clearText cX8_clearText 2 (some .int) 0 := ⟨(tt_mem 602 (by decide +kernel) rfl), (tt_mem 603 (by decide +kernel) rfl), (tt_mem 604 (by decide +kernel) rfl), (tt_mem 1 (by decide +kernel) rfl), (tt_mem 605 (by decide +kernel) rfl), by decide +kernel⟩
theorem lk_L_71 : LkV RL 71 yX8_bookAll cX8_bookAll 4 (some .int) 0 := ⟨(tt_mem 606 (by decide +kernel) rfl), (tt_mem 607 (by decide +kernel) rfl), (tt_mem 608 (by decide +kernel) rfl), (tt_mem 1 (by decide +kernel) rfl), (tt_mem 609 (by decide +kernel) rfl), by decide +kernel⟩
theorem lk_X8_199 : LkV RX8 199 yX6_read cX6_read 2 (some .int) 0 := ⟨(tt_mem 610 (by decide +kernel) rfl), (tt_mem 611 (by decide +kernel) rfl), (tt_mem 612 (by decide +kernel) rfl), (tt_mem 7 (by decide +kernel) rfl), (tt_mem 613 (by decide +kernel) rfl), by decide +kernel⟩
theorem lk_X6_35 : LkV RX6 35 yX6_readEntry cX6_readEntry 2 (some .boolean) 1 := ⟨(tt_mem 614 (by decide +kernel) rfl), (tt_mem 616 (by decide +kernel) rfl), (tt_sel 16 (q := (yX6_readEntry, 7)) (by decide +kernel)), (tt_mem 7 (by decide +kernel) rfl), (tt_mem 617 (by decide +kernel) rfl), by decide +kernel⟩
theorem lk_X6_43 : LkV RX6 43 yX6_isDigit cX6_isDigit 1 (some .boolean) 0 := ⟨(tt_mem 618 (by decide +kernel) rfl), (tt_mem 620 (by decide +kernel) rfl), (tt_sel 17 (q := (yX6_isDigit, 7)) (by decide +kernel)), (tt_mem 7 (by decide +kernel) rfl), (tt_mem 621 (by decide +kernel) rfl), by decide +kernel⟩
theorem lk_X6_54 : LkV RX6 54 yX6_current cX6_current 1 (some .char) 0 := ⟨(tt_mem 622 (by decide +kernel) rfl), (tt_mem 624 (by decide +kernel) rfl), (tt_sel 18 (q := (yX6_current, 7)) (by decide +kernel)), (tt_mem 7 (by decide +kernel) rfl), (tt_mem 625 (by decide +kernel) rfl), by decide +kernel⟩
theorem lk_X6_47 : LkV RX6 47 yX6_takeDigit cX6_takeDigit 2 (some .int) 0 := ⟨(tt_mem 626 (by decide +kernel) rfl), (tt_mem 628 (by decide +kernel) rfl), (tt_sel 19 (q := (yX6_takeDigit, 7)) (by decide +kernel)), (tt_mem 7 (by decide +kernel) rfl), (tt_mem 629 (by decide +kernel) rfl), by decide +kernel⟩
theorem lk_X6_39 : LkV RX6 39 yX6_skip cX6_skip 2 (some .boolean) 1 := ⟨(tt_mem 630 (by decide +kernel) rfl), (tt_mem 632 (by decide +kernel) rfl), (tt_sel 20 (q := (yX6_skip, 7)) (by decide +kernel)), (tt_mem 7 (by decide +kernel) rfl), (tt_mem 633 (by decide +kernel) rfl), by decide +kernel⟩
theorem lk_X6_51 : LkV RX6 51 yX6_takeStart cX6_takeStart 3 (some .int) 0 := ⟨(tt_mem 634 (by decide +kernel) rfl), (tt_mem 636 (by decide +kernel) rfl), (tt_sel 21 (q := (yX6_takeStart, 7)) (by decide +kernel)), (tt_mem 7 (by decide +kernel) rfl), (tt_mem 637 (by decide +kernel) rfl), by decide +kernel⟩
theorem lk_X8_202 : LkV RX8 202 yX5_copyFrom cX5_copyFrom 2 none 1 := ⟨(tt_mem 638 (by decide +kernel) rfl), (tt_mem 360 (by decide +kernel) rfl), (tt_mem 361 (by decide +kernel) rfl), (tt_mem 2 (by decide +kernel) rfl), (tt_mem 362 (by decide +kernel) rfl), by decide +kernel⟩
theorem lk_L_75 : LkV RL 75 yX8_undo cX8_undo 1 (some .int) 0 := ⟨(tt_mem 639 (by decide +kernel) rfl), (tt_mem 640 (by decide +kernel) rfl), (tt_mem 641 (by decide +kernel) rfl), (tt_mem 1 (by decide +kernel) rfl), (tt_mem 642 (by decide +kernel) rfl), by decide +kernel⟩
theorem lk_X8_212 : LkV RX8 212 yX2_popInto cX2_popInto 3 none 1 := ⟨(tt_mem 643 (by decide +kernel) rfl), (tt_mem 644 (by decide +kernel) rfl), (tt_mem 645 (by decide +kernel) rfl), (tt_mem 6 (by decide +kernel) rfl), (tt_mem 646 (by decide +kernel) rfl), by decide +kernel⟩
theorem lk_L_79 : LkV RL 79 yX8_keep cX8_keep 1 (some .int) 0 := ⟨(tt_mem 647 (by decide +kernel) rfl), (tt_mem 648 (by decide +kernel) rfl), (tt_mem 649 (by decide +kernel) rfl), (tt_mem 1 (by decide +kernel) rfl), (tt_mem 650 (by decide +kernel) rfl), by decide +kernel⟩
theorem lk_L_83 : LkV RL 83 yX8_restore cX8_restore 1 (some .int) 0 := ⟨(tt_mem 651 (by decide +kernel) rfl), (tt_mem 652 (by decide +kernel) rfl), (tt_mem 653 (by decide +kernel) rfl), (tt_mem 1 (by decide +kernel) rfl), (tt_mem 654 (by decide +kernel) rfl), by decide +kernel⟩
theorem lk_L_87 : LkV RL 87 yX8_recipe cX8_recipe 3 (some .int) 2 := ⟨(tt_mem 655 (by decide +kernel) rfl), (tt_mem 656 (by decide +kernel) rfl), (tt_mem 657 (by decide +kernel) rfl), (tt_mem 1 (by decide +kernel) rfl), (tt_mem 658 (by decide +kernel) rfl), by decide +kernel⟩
theorem lk_X8_227 : LkV RX8 227 yX0_doneOfRecipe cX0_doneOfRecipe 4 (some .int) 1 := ⟨(tt_mem 659 (by decide +kernel) rfl), (tt_mem 660 (by decide +kernel) rfl), (tt_mem 661 (by decide +kernel) rfl), (tt_mem 4 (by decide +kernel) rfl), (tt_mem 662 (by decide +kernel) rfl), by decide +kernel⟩
theorem lk_L_91 : LkV RL 91 yX8_robot cX8_robot 3 (some .int) 2 := ⟨(tt_mem 663 (by decide +kernel) rfl), (tt_mem 664 (by decide +kernel) rfl), (tt_mem 665 (by decide +kernel) rfl), (tt_mem 1 (by decide +kernel) rfl), (tt_mem 666 (by decide +kernel) rfl), by decide +kernel⟩
theorem lk_X8_230 : LkV RX8 230 yX0_ofRobot cX0_ofRobot 5 (some .int) 2 := ⟨(tt_mem 667 (by decide +kernel) rfl), (tt_mem 668 (by decide +kernel) rfl), (tt_mem 669 (by decide +kernel) rfl), (tt_mem 4 (by decide +kernel) rfl), (tt_mem 670 (by decide +kernel) rfl), by decide +kernel⟩
theorem lk_X8_233 : LkV RX8 233 yX5_isBusyIn cX5_isBusyIn 3 (some .boolean) 2 := ⟨(tt_mem 671 (by decide +kernel) rfl), (tt_mem 672 (by decide +kernel) rfl), (tt_mem 673 (by decide +kernel) rfl), (tt_mem 2 (by decide +kernel) rfl), (tt_mem 674 (by decide +kernel) rfl), by decide +kernel⟩
theorem lk_X5_63 : LkV RX5 63 yX5_firstMeeting cX5_firstMeeting 6 (some .int) 4 := ⟨(tt_mem 675 (by decide +kernel) rfl), (tt_mem 489 (by decide +kernel) rfl), (tt_mem 490 (by decide +kernel) rfl), (tt_mem 2 (by decide +kernel) rfl), (tt_mem 491 (by decide +kernel) rfl), by decide +kernel⟩
theorem lk_X8_237 : LkV RX8 237 yX5_firstFreeTick cX5_firstFreeTick 3 (some .int) 1 := ⟨(tt_mem 676 (by decide +kernel) rfl), (tt_mem 677 (by decide +kernel) rfl), (tt_mem 678 (by decide +kernel) rfl), (tt_mem 2 (by decide +kernel) rfl), (tt_mem 679 (by decide +kernel) rfl), by decide +kernel⟩
theorem lk_X5_67 : LkV RX5 67 yX5_isBusyIn cX5_isBusyIn 3 (some .boolean) 2 := ⟨(tt_mem 680 (by decide +kernel) rfl), (tt_mem 672 (by decide +kernel) rfl), (tt_mem 673 (by decide +kernel) rfl), (tt_mem 2 (by decide +kernel) rfl), (tt_mem 674 (by decide +kernel) rfl), by decide +kernel⟩
theorem lk_L_95 : LkV RL 95 yX8_booking cX8_booking 4 (some .int) 2 := ⟨(tt_mem 681 (by decide +kernel) rfl), (tt_mem 682 (by decide +kernel) rfl), (tt_mem 683 (by decide +kernel) rfl), (tt_mem 1 (by decide +kernel) rfl), (tt_mem 684 (by decide +kernel) rfl), by decide +kernel⟩
theorem lk_X8_243 : LkV RX8 243 yX8_stateInTheEnd cX8_stateInTheEnd 3 (some .int) 1 := ⟨(tt_mem 685 (by decide +kernel) rfl), (tt_mem 687 (by decide +kernel) rfl), (tt_sel 22 (q := (yX8_stateInTheEnd, 9)) (by decide +kernel)), (tt_mem 1 (by decide +kernel) rfl), (tt_mem 688 (by decide +kernel) rfl), by decide +kernel⟩
theorem lk_X8_283 : LkV RX8 283 yX1_rowOf cX1_rowOf 3 (some .int) 1 := ⟨(tt_mem 689 (by decide +kernel) rfl), (tt_mem 498 (by decide +kernel) rfl), (tt_mem 499 (by decide +kernel) rfl), (tt_mem 8 (by decide +kernel) rfl), (tt_mem 500 (by decide +kernel) rfl), by decide +kernel⟩
theorem lk_X8_246 : LkV RX8 246 yX8_tickOfSpoiling cX8_tickOfSpoiling 3 (some .int) 1 := ⟨(tt_mem 690 (by decide +kernel) rfl), (tt_mem 692 (by decide +kernel) rfl), (tt_sel 23 (q := (yX8_tickOfSpoiling, 9)) (by decide +kernel)), (tt_mem 1 (by decide +kernel) rfl), (tt_mem 693 (by decide +kernel) rfl), by decide +kernel⟩
theorem lk_X8_249 : LkV RX8 249 yX8_leastSpare cX8_leastSpare 3 (some .int) 1 := ⟨(tt_mem 694 (by decide +kernel) rfl), (tt_mem 696 (by decide +kernel) rfl), (tt_sel 24 (q := (yX8_leastSpare, 9)) (by decide +kernel)), (tt_mem 1 (by decide +kernel) rfl), (tt_mem 697 (by decide +kernel) rfl), by decide +kernel⟩
theorem lk_L_99 : LkV RL 99 yX8_wishTold cX8_wishTold 4 (some .int) 2 := ⟨(tt_mem 698 (by decide +kernel) rfl), (tt_mem 699 (by decide +kernel) rfl), (tt_mem 700 (by decide +kernel) rfl), (tt_mem 1 (by decide +kernel) rfl), (tt_mem 701 (by decide +kernel) rfl), by decide +kernel⟩
theorem lk_L_103 : LkV RL 103 yX8_pressureIn cX8_pressureIn 2 (some .int) 1 := ⟨(tt_mem 702 (by decide +kernel) rfl), (tt_mem 703 (by decide +kernel) rfl), (tt_mem 704 (by decide +kernel) rfl), (tt_mem 1 (by decide +kernel) rfl), (tt_mem 705 (by decide +kernel) rfl), by decide +kernel⟩
theorem lk_L_107 : LkV RL 107 yX8_lowestIn cX8_lowestIn 2 (some .int) 1 := ⟨(tt_mem 706 (by decide +kernel) rfl), (tt_mem 707 (by decide +kernel) rfl), (tt_mem 708 (by decide +kernel) rfl), (tt_mem 1 (by decide +kernel) rfl), (tt_mem 709 (by decide +kernel) rfl), by decide +kernel⟩
theorem lk_L_111 : LkV RL 111 yX8_why cX8_why 6 (some .int) 4 := ⟨(tt_mem 710 (by decide +kernel) rfl), (tt_mem 711 (by decide +kernel) rfl), (tt_mem 712 (by decide +kernel) rfl), (tt_mem 1 (by decide +kernel) rfl), (tt_mem 713 (by decide +kernel) rfl), by decide +kernel⟩
theorem lk_L_115 : LkV RL 115 yX8_earliest cX8_earliest 4 (some .int) 3 := ⟨(tt_mem 714 (by decide +kernel) rfl), (tt_mem 715 (by decide +kernel) rfl), (tt_mem 716 (by decide +kernel) rfl), (tt_mem 1 (by decide +kernel) rfl), (tt_mem 717 (by decide +kernel) rfl), by decide +kernel⟩
theorem lk_L_119 : LkV RL 119 yX8_count cX8_count 2 (some .int) 1 := ⟨(tt_mem 718 (by decide +kernel) rfl), (tt_mem 719 (by decide +kernel) rfl), (tt_mem 720 (by decide +kernel) rfl), (tt_mem 1 (by decide +kernel) rfl), (tt_mem 721 (by decide +kernel) rfl), by decide +kernel⟩
theorem lk_X8_266 : LkV RX8 266 yX0_inState cX0_inState 4 (some .int) 1 := ⟨(tt_mem 722 (by decide +kernel) rfl), (tt_mem 723 (by decide +kernel) rfl), (tt_mem 724 (by decide +kernel) rfl), (tt_mem 4 (by decide +kernel) rfl), (tt_mem 725 (by decide +kernel) rfl), by decide +kernel⟩
theorem lk_L_17 : LkV RL 17 yX9_addRecipe cX9_addRecipe 7 (some .int) 4 := ⟨(tt_mem 805 (by decide +kernel) rfl), (tt_mem 806 (by decide +kernel) rfl), (tt_mem 807 (by decide +kernel) rfl), (tt_mem 10 (by decide +kernel) rfl), (tt_mem 808 (by decide +kernel) rfl), by decide +kernel⟩
theorem lk_X9_52 : LkS RX9 52 yX9_in cX9_in 3 (some .boolean) 3 := ⟨(tt_mem 809 (by decide +kernel) rfl), (tt_mem 810 (by decide +kernel) rfl), rfl, (tt_mem 10 (by decide +kernel) rfl), (tt_mem 811 (by decide +kernel) rfl), by decide +kernel⟩
theorem lk_X9_107 : LkV RX9 107 yX9_record cX9_record 2 none 0 := ⟨(tt_mem 812 (by decide +kernel) rfl), (tt_mem 814 (by decide +kernel) rfl), (tt_sel 25 (q := (yX9_record, 24)) (by decide +kernel)), (tt_mem 10 (by decide +kernel) rfl), (tt_mem 815 (by decide +kernel) rfl), by decide +kernel⟩
theorem lk_L_22 : LkV RL 22 yX9_setHeat cX9_setHeat 2 (some .int) 1 := ⟨(tt_mem 816 (by decide +kernel) rfl), (tt_mem 817 (by decide +kernel) rfl), (tt_mem 818 (by decide +kernel) rfl), (tt_mem 10 (by decide +kernel) rfl), (tt_mem 819 (by decide +kernel) rfl), by decide +kernel⟩
theorem lk_X9_110 : LkV RX9 110 yX9_doomed cX9_doomed 3 (some .int) 0 := ⟨(tt_mem 820 (by decide +kernel) rfl), (tt_mem 822 (by decide +kernel) rfl), (tt_sel 26 (q := (yX9_doomed, 24)) (by decide +kernel)), (tt_mem 10 (by decide +kernel) rfl), (tt_mem 823 (by decide +kernel) rfl), by decide +kernel⟩
theorem lk_X9_87 : LkV RX9 87 yX9_forecast cX9_forecast 2 none 0 := ⟨(tt_mem 824 (by decide +kernel) rfl), (tt_mem 826 (by decide +kernel) rfl), (tt_sel 27 (q := (yX9_forecast, 24)) (by decide +kernel)), (tt_mem 10 (by decide +kernel) rfl), (tt_mem 827 (by decide +kernel) rfl), by decide +kernel⟩
theorem lk_X9_80 : LkV RX9 80 yX9_begins cX9_begins 2 none 0 := ⟨(tt_mem 828 (by decide +kernel) rfl), (tt_mem 830 (by decide +kernel) rfl), (tt_sel 28 (q := (yX9_begins, 24)) (by decide +kernel)), (tt_mem 10 (by decide +kernel) rfl), (tt_mem 831 (by decide +kernel) rfl), by decide +kernel⟩
theorem lk_X9_56 : LkV RX9 56 yX9_of cX9_of 3 (some .int) 2 := ⟨(tt_mem 832 (by decide +kernel) rfl), (tt_mem 834 (by decide +kernel) rfl), (tt_sel 29 (q := (yX9_of, 24)) (by decide +kernel)), (tt_mem 10 (by decide +kernel) rfl), (tt_mem 835 (by decide +kernel) rfl), by decide +kernel⟩
theorem lk_X9_83 : LkV RX9 83 yX9_foresees cX9_foresees 3 none 1 := ⟨(tt_mem 837 (by decide +kernel) rfl), (tt_mem 839 (by decide +kernel) rfl), (tt_sel 30 (q := (yX9_foresees, 24)) (by decide +kernel)), (tt_mem 10 (by decide +kernel) rfl), (tt_mem 840 (by decide +kernel) rfl), by decide +kernel⟩
theorem lk_X9_73 : LkV RX9 73 yX9_asks cX9_asks 7 none 4 := ⟨(tt_mem 841 (by decide +kernel) rfl), (tt_mem 843 (by decide +kernel) rfl), (tt_sel 31 (q := (yX9_asks, 24)) (by decide +kernel)), (tt_mem 10 (by decide +kernel) rfl), (tt_mem 844 (by decide +kernel) rfl), by decide +kernel⟩
theorem lk_X9_63 : LkV RX9 63 yX9_ofRecipe cX9_ofRecipe 3 (some .int) 2 := ⟨(tt_mem 845 (by decide +kernel) rfl), (tt_mem 847 (by decide +kernel) rfl), (tt_sel 32 (q := (yX9_ofRecipe, 24)) (by decide +kernel)), (tt_mem 10 (by decide +kernel) rfl), (tt_mem 848 (by decide +kernel) rfl), by decide +kernel⟩
theorem lk_L_26 : LkV RL 26 yX9_setMost cX9_setMost 2 (some .int) 1 := ⟨(tt_mem 849 (by decide +kernel) rfl), (tt_mem 850 (by decide +kernel) rfl), (tt_mem 851 (by decide +kernel) rfl), (tt_mem 10 (by decide +kernel) rfl), (tt_mem 852 (by decide +kernel) rfl), by decide +kernel⟩
theorem lk_L_30 : LkV RL 30 yX9_fall cX9_fall 3 (some .int) 1 := ⟨(tt_mem 853 (by decide +kernel) rfl), (tt_mem 854 (by decide +kernel) rfl), (tt_mem 855 (by decide +kernel) rfl), (tt_mem 10 (by decide +kernel) rfl), (tt_mem 856 (by decide +kernel) rfl), by decide +kernel⟩
theorem lk_L_35 : LkV RL 35 yX9_book cX9_book 5 (some .int) 3 := ⟨(tt_mem 857 (by decide +kernel) rfl), (tt_mem 858 (by decide +kernel) rfl), (tt_mem 859 (by decide +kernel) rfl), (tt_mem 10 (by decide +kernel) rfl), (tt_mem 860 (by decide +kernel) rfl), by decide +kernel⟩
theorem lk_X9_127 : LkV RX9 127 yX9_wrong cX9_wrong 5 (some .int) 3 := ⟨(tt_mem 861 (by decide +kernel) rfl), (tt_mem 863 (by decide +kernel) rfl), (tt_sel 33 (q := (yX9_wrong, 24)) (by decide +kernel)), (tt_mem 10 (by decide +kernel) rfl), (tt_mem 864 (by decide +kernel) rfl), by decide +kernel⟩
theorem lk_X9_114 : LkS RX9 114 yX9_noRobot cX9_noRobot 1 (some .boolean) 1 := ⟨(tt_mem 865 (by decide +kernel) rfl), (tt_mem 866 (by decide +kernel) rfl), rfl, (tt_mem 10 (by decide +kernel) rfl), (tt_mem 867 (by decide +kernel) rfl), by decide +kernel⟩
theorem lk_X9_118 : LkV RX9 118 yX9_noRecipe cX9_noRecipe 2 (some .boolean) 1 := ⟨(tt_mem 868 (by decide +kernel) rfl), (tt_mem 870 (by decide +kernel) rfl), (tt_sel 34 (q := (yX9_noRecipe, 24)) (by decide +kernel)), (tt_mem 10 (by decide +kernel) rfl), (tt_mem 871 (by decide +kernel) rfl), by decide +kernel⟩
theorem lk_X9_121 : LkV RX9 121 yX9_isStart cX9_isStart 2 (some .boolean) 1 := ⟨(tt_mem 872 (by decide +kernel) rfl), (tt_mem 874 (by decide +kernel) rfl), (tt_sel 35 (q := (yX9_isStart, 24)) (by decide +kernel)), (tt_mem 10 (by decide +kernel) rfl), (tt_mem 875 (by decide +kernel) rfl), by decide +kernel⟩
theorem lk_X9_124 : LkV RX9 124 yX9_bases cX9_bases 3 none 1 := ⟨(tt_mem 876 (by decide +kernel) rfl), (tt_mem 878 (by decide +kernel) rfl), (tt_sel 36 (q := (yX9_bases, 24)) (by decide +kernel)), (tt_mem 10 (by decide +kernel) rfl), (tt_mem 879 (by decide +kernel) rfl), by decide +kernel⟩
theorem lk_X9_100 : LkV RX9 100 yX9_reason cX9_reason 7 (some .int) 4 := ⟨(tt_mem 880 (by decide +kernel) rfl), (tt_mem 882 (by decide +kernel) rfl), (tt_sel 37 (q := (yX9_reason, 24)) (by decide +kernel)), (tt_mem 10 (by decide +kernel) rfl), (tt_mem 883 (by decide +kernel) rfl), by decide +kernel⟩
theorem lk_X9_90 : LkV RX9 90 yX9_last cX9_last 3 (some .int) 2 := ⟨(tt_mem 884 (by decide +kernel) rfl), (tt_mem 886 (by decide +kernel) rfl), (tt_sel 38 (q := (yX9_last, 24)) (by decide +kernel)), (tt_mem 10 (by decide +kernel) rfl), (tt_mem 887 (by decide +kernel) rfl), by decide +kernel⟩
theorem lk_X9_93 : LkV RX9 93 yX9_keeper cX9_keeper 6 (some .int) 4 := ⟨(tt_mem 888 (by decide +kernel) rfl), (tt_mem 890 (by decide +kernel) rfl), (tt_sel 39 (q := (yX9_keeper, 24)) (by decide +kernel)), (tt_mem 10 (by decide +kernel) rfl), (tt_mem 891 (by decide +kernel) rfl), by decide +kernel⟩
theorem lk_X9_131 : LkV RX9 131 yX9_adds cX9_adds 5 (some .int) 3 := ⟨(tt_mem 892 (by decide +kernel) rfl), (tt_mem 894 (by decide +kernel) rfl), (tt_sel 40 (q := (yX9_adds, 24)) (by decide +kernel)), (tt_mem 10 (by decide +kernel) rfl), (tt_mem 895 (by decide +kernel) rfl), by decide +kernel⟩
theorem lk_X9_103 : LkV RX9 103 yX9_puts cX9_puts 4 none 3 := ⟨(tt_mem 896 (by decide +kernel) rfl), (tt_mem 898 (by decide +kernel) rfl), (tt_sel 41 (q := (yX9_puts, 24)) (by decide +kernel)), (tt_mem 10 (by decide +kernel) rfl), (tt_mem 899 (by decide +kernel) rfl), by decide +kernel⟩
theorem lk_L_39 : LkV RL 39 yX9_cancel cX9_cancel 4 (some .int) 1 := ⟨(tt_mem 900 (by decide +kernel) rfl), (tt_mem 901 (by decide +kernel) rfl), (tt_mem 902 (by decide +kernel) rfl), (tt_mem 10 (by decide +kernel) rfl), (tt_mem 903 (by decide +kernel) rfl), by decide +kernel⟩
theorem lk_X9_138 : LkV RX9 138 yX9_noBooking cX9_noBooking 2 (some .boolean) 1 := ⟨(tt_mem 904 (by decide +kernel) rfl), (tt_mem 906 (by decide +kernel) rfl), (tt_sel 42 (q := (yX9_noBooking, 24)) (by decide +kernel)), (tt_mem 10 (by decide +kernel) rfl), (tt_mem 907 (by decide +kernel) rfl), by decide +kernel⟩
theorem lk_X9_141 : LkV RX9 141 yX9_isOpen cX9_isOpen 2 (some .boolean) 1 := ⟨(tt_mem 908 (by decide +kernel) rfl), (tt_mem 910 (by decide +kernel) rfl), (tt_sel 43 (q := (yX9_isOpen, 24)) (by decide +kernel)), (tt_mem 10 (by decide +kernel) rfl), (tt_mem 911 (by decide +kernel) rfl), by decide +kernel⟩
theorem lk_X9_144 : LkV RX9 144 yX9_ofWish cX9_ofWish 3 (some .int) 2 := ⟨(tt_mem 912 (by decide +kernel) rfl), (tt_mem 914 (by decide +kernel) rfl), (tt_sel 44 (q := (yX9_ofWish, 24)) (by decide +kernel)), (tt_mem 10 (by decide +kernel) rfl), (tt_mem 915 (by decide +kernel) rfl), by decide +kernel⟩
theorem lk_X9_147 : LkV RX9 147 yX9_grants cX9_grants 5 (some .int) 3 := ⟨(tt_mem 916 (by decide +kernel) rfl), (tt_mem 918 (by decide +kernel) rfl), (tt_sel 45 (q := (yX9_grants, 24)) (by decide +kernel)), (tt_mem 10 (by decide +kernel) rfl), (tt_mem 919 (by decide +kernel) rfl), by decide +kernel⟩
theorem lk_X9_134 : LkV RX9 134 yX9_first cX9_first 9 (some .int) 5 := ⟨(tt_mem 920 (by decide +kernel) rfl), (tt_mem 922 (by decide +kernel) rfl), (tt_sel 46 (q := (yX9_first, 24)) (by decide +kernel)), (tt_mem 10 (by decide +kernel) rfl), (tt_mem 923 (by decide +kernel) rfl), by decide +kernel⟩
theorem lk_X9_150 : LkV RX9 150 yX9_leaves cX9_leaves 3 none 1 := ⟨(tt_mem 924 (by decide +kernel) rfl), (tt_mem 926 (by decide +kernel) rfl), (tt_sel 47 (q := (yX9_leaves, 24)) (by decide +kernel)), (tt_mem 10 (by decide +kernel) rfl), (tt_mem 927 (by decide +kernel) rfl), by decide +kernel⟩
theorem lk_L_44 : LkV RL 44 yX9_move cX9_move 5 (some .int) 2 := ⟨(tt_mem 928 (by decide +kernel) rfl), (tt_mem 929 (by decide +kernel) rfl), (tt_mem 930 (by decide +kernel) rfl), (tt_mem 10 (by decide +kernel) rfl), (tt_mem 931 (by decide +kernel) rfl), by decide +kernel⟩
theorem lk_L_49 : LkV RL 49 yX9_repair cX9_repair 4 (some .int) 0 := ⟨(tt_mem 932 (by decide +kernel) rfl), (tt_mem 933 (by decide +kernel) rfl), (tt_mem 934 (by decide +kernel) rfl), (tt_mem 10 (by decide +kernel) rfl), (tt_mem 935 (by decide +kernel) rfl), by decide +kernel⟩
theorem lk_X9_153 : LkV RX9 153 yX9_sick cX9_sick 2 (some .int) 0 := ⟨(tt_mem 936 (by decide +kernel) rfl), (tt_mem 938 (by decide +kernel) rfl), (tt_sel 48 (q := (yX9_sick, 24)) (by decide +kernel)), (tt_mem 10 (by decide +kernel) rfl), (tt_mem 939 (by decide +kernel) rfl), by decide +kernel⟩
theorem lk_L_53 : LkV RL 53 yX9_wish cX9_wish 6 (some .int) 3 := ⟨(tt_mem 940 (by decide +kernel) rfl), (tt_mem 941 (by decide +kernel) rfl), (tt_mem 942 (by decide +kernel) rfl), (tt_mem 10 (by decide +kernel) rfl), (tt_mem 943 (by decide +kernel) rfl), by decide +kernel⟩
theorem lk_X9_156 : LkV RX9 156 yX9_goes cX9_goes 2 none 0 := ⟨(tt_mem 944 (by decide +kernel) rfl), (tt_mem 946 (by decide +kernel) rfl), (tt_sel 49 (q := (yX9_goes, 24)) (by decide +kernel)), (tt_mem 10 (by decide +kernel) rfl), (tt_mem 947 (by decide +kernel) rfl), by decide +kernel⟩
theorem lk_X9_159 : LkV RX9 159 yX9_comes cX9_comes 2 none 0 := ⟨(tt_mem 948 (by decide +kernel) rfl), (tt_mem 950 (by decide +kernel) rfl), (tt_sel 50 (q := (yX9_comes, 24)) (by decide +kernel)), (tt_mem 10 (by decide +kernel) rfl), (tt_mem 951 (by decide +kernel) rfl), by decide +kernel⟩
theorem lk_L_57 : LkV RL 57 yX9_unwish cX9_unwish 3 (some .int) 1 := ⟨(tt_mem 952 (by decide +kernel) rfl), (tt_mem 953 (by decide +kernel) rfl), (tt_mem 954 (by decide +kernel) rfl), (tt_mem 10 (by decide +kernel) rfl), (tt_mem 955 (by decide +kernel) rfl), by decide +kernel⟩
theorem lk_L_61 : LkV RL 61 yX9_pass cX9_pass 4 (some .int) 1 := ⟨(tt_mem 956 (by decide +kernel) rfl), (tt_mem 957 (by decide +kernel) rfl), (tt_mem 958 (by decide +kernel) rfl), (tt_mem 10 (by decide +kernel) rfl), (tt_mem 959 (by decide +kernel) rfl), by decide +kernel⟩
theorem lk_X9_165 : LkV RX9 165 yX9_aTick cX9_aTick 3 (some .int) 0 := ⟨(tt_mem 960 (by decide +kernel) rfl), (tt_mem 962 (by decide +kernel) rfl), (tt_sel 51 (q := (yX9_aTick, 24)) (by decide +kernel)), (tt_mem 10 (by decide +kernel) rfl), (tt_mem 963 (by decide +kernel) rfl), by decide +kernel⟩
theorem lk_X9_162 : LkV RX9 162 yX9_draws cX9_draws 5 (some .boolean) 1 := ⟨(tt_mem 964 (by decide +kernel) rfl), (tt_mem 966 (by decide +kernel) rfl), (tt_sel 52 (q := (yX9_draws, 24)) (by decide +kernel)), (tt_mem 10 (by decide +kernel) rfl), (tt_mem 967 (by decide +kernel) rfl), by decide +kernel⟩
theorem lk_L_66 : LkV RL 66 yX9_type cX9_type 2 (some .int) 1 := ⟨(tt_mem 968 (by decide +kernel) rfl), (tt_mem 969 (by decide +kernel) rfl), (tt_mem 970 (by decide +kernel) rfl), (tt_mem 10 (by decide +kernel) rfl), (tt_mem 971 (by decide +kernel) rfl), by decide +kernel⟩
theorem lk_L_70 : LkV RL 70 yX9_clearText cX9_clearText 2 (some .int) 0 := ⟨(tt_mem 972 (by decide +kernel) rfl), (tt_mem 973 (by decide +kernel) rfl), (tt_mem 974 (by decide +kernel) rfl), (tt_mem 10 (by decide +kernel) rfl), (tt_mem 975 (by decide +kernel) rfl), by decide +kernel⟩
theorem lk_L_74 : LkV RL 74 yX9_bookAll cX9_bookAll 4 (some .int) 0 := ⟨(tt_mem 976 (by decide +kernel) rfl), (tt_mem 977 (by decide +kernel) rfl), (tt_mem 978 (by decide +kernel) rfl), (tt_mem 10 (by decide +kernel) rfl), (tt_mem 979 (by decide +kernel) rfl), by decide +kernel⟩
theorem lk_X9_196 : LkV RX9 196 yX9_bookingsOfText cX9_bookingsOfText 3 (some .int) 0 := ⟨(tt_mem 980 (by decide +kernel) rfl), (tt_mem 982 (by decide +kernel) rfl), (tt_sel 53 (q := (yX9_bookingsOfText, 24)) (by decide +kernel)), (tt_mem 10 (by decide +kernel) rfl), (tt_mem 983 (by decide +kernel) rfl), by decide +kernel⟩
theorem lk_X9_193 : LkV RX9 193 yX9_takesBooking cX9_takesBooking 1 (some .boolean) 0 := ⟨(tt_mem 984 (by decide +kernel) rfl), (tt_mem 986 (by decide +kernel) rfl), (tt_sel 54 (q := (yX9_takesBooking, 24)) (by decide +kernel)), (tt_mem 10 (by decide +kernel) rfl), (tt_mem 987 (by decide +kernel) rfl), by decide +kernel⟩
theorem lk_X9_181 : LkV RX9 181 yX9_takesNumber cX9_takesNumber 3 (some .boolean) 1 := ⟨(tt_mem 988 (by decide +kernel) rfl), (tt_mem 990 (by decide +kernel) rfl), (tt_sel 55 (q := (yX9_takesNumber, 24)) (by decide +kernel)), (tt_mem 10 (by decide +kernel) rfl), (tt_mem 991 (by decide +kernel) rfl), by decide +kernel⟩
theorem lk_X9_174 : LkV RX9 174 yX9_isDigit cX9_isDigit 1 (some .boolean) 0 := ⟨(tt_mem 992 (by decide +kernel) rfl), (tt_mem 994 (by decide +kernel) rfl), (tt_sel 56 (q := (yX9_isDigit, 24)) (by decide +kernel)), (tt_mem 10 (by decide +kernel) rfl), (tt_mem 995 (by decide +kernel) rfl), by decide +kernel⟩
theorem lk_X9_187 : LkV RX9 187 yX9_takes cX9_takes 2 (some .boolean) 1 := ⟨(tt_mem 996 (by decide +kernel) rfl), (tt_mem 998 (by decide +kernel) rfl), (tt_sel 57 (q := (yX9_takes, 24)) (by decide +kernel)), (tt_mem 10 (by decide +kernel) rfl), (tt_mem 999 (by decide +kernel) rfl), by decide +kernel⟩
theorem lk_X9_199 : LkV RX9 199 yX9_trades cX9_trades 3 none 0 := ⟨(tt_mem 1000 (by decide +kernel) rfl), (tt_mem 1002 (by decide +kernel) rfl), (tt_sel 58 (q := (yX9_trades, 24)) (by decide +kernel)), (tt_mem 10 (by decide +kernel) rfl), (tt_mem 1003 (by decide +kernel) rfl), by decide +kernel⟩
theorem lk_L_78 : LkV RL 78 yX9_undo cX9_undo 2 (some .int) 0 := ⟨(tt_mem 1004 (by decide +kernel) rfl), (tt_mem 1005 (by decide +kernel) rfl), (tt_mem 1006 (by decide +kernel) rfl), (tt_mem 10 (by decide +kernel) rfl), (tt_mem 1007 (by decide +kernel) rfl), by decide +kernel⟩
theorem lk_L_82 : LkV RL 82 yX9_keep cX9_keep 2 (some .int) 0 := ⟨(tt_mem 1008 (by decide +kernel) rfl), (tt_mem 1009 (by decide +kernel) rfl), (tt_mem 1010 (by decide +kernel) rfl), (tt_mem 10 (by decide +kernel) rfl), (tt_mem 1011 (by decide +kernel) rfl), by decide +kernel⟩
theorem lk_L_86 : LkV RL 86 yX9_restore cX9_restore 2 (some .int) 0 := ⟨(tt_mem 1012 (by decide +kernel) rfl), (tt_mem 1013 (by decide +kernel) rfl), (tt_mem 1014 (by decide +kernel) rfl), (tt_mem 10 (by decide +kernel) rfl), (tt_mem 1015 (by decide +kernel) rfl), by decide +kernel⟩
theorem lk_L_90 : LkV RL 90 yX9_recipe cX9_recipe 3 (some .int) 2 := ⟨(tt_mem 1016 (by decide +kernel) rfl), (tt_mem 1017 (by decide +kernel) rfl), (tt_mem 1018 (by decide +kernel) rfl), (tt_mem 10 (by decide +kernel) rfl), (tt_mem 1019 (by decide +kernel) rfl), by decide +kernel⟩
theorem lk_X9_206 : LkV RX9 206 yX9_bookings cX9_bookings 7 (some .int) 4 := ⟨(tt_mem 1020 (by decide +kernel) rfl), (tt_mem 1022 (by decide +kernel) rfl), (tt_sel 59 (q := (yX9_bookings, 24)) (by decide +kernel)), (tt_mem 10 (by decide +kernel) rfl), (tt_mem 1023 (by decide +kernel) rfl), by decide +kernel⟩
theorem lk_L_94 : LkV RL 94 yX9_robot cX9_robot 4 (some .int) 2 := ⟨(tt_mem 1024 (by decide +kernel) rfl), (tt_mem 1025 (by decide +kernel) rfl), (tt_mem 1026 (by decide +kernel) rfl), (tt_mem 10 (by decide +kernel) rfl), (tt_mem 1027 (by decide +kernel) rfl), by decide +kernel⟩
theorem lk_L_98 : LkV RL 98 yX9_booking cX9_booking 3 (some .int) 2 := ⟨(tt_mem 1028 (by decide +kernel) rfl), (tt_mem 1029 (by decide +kernel) rfl), (tt_mem 1030 (by decide +kernel) rfl), (tt_mem 10 (by decide +kernel) rfl), (tt_mem 1031 (by decide +kernel) rfl), by decide +kernel⟩
theorem lk_L_102 : LkV RL 102 yX9_wishTold cX9_wishTold 3 (some .int) 2 := ⟨(tt_mem 1032 (by decide +kernel) rfl), (tt_mem 1033 (by decide +kernel) rfl), (tt_mem 1034 (by decide +kernel) rfl), (tt_mem 10 (by decide +kernel) rfl), (tt_mem 1035 (by decide +kernel) rfl), by decide +kernel⟩
theorem lk_L_106 : LkV RL 106 yX9_pressureIn cX9_pressureIn 3 (some .int) 1 := ⟨(tt_mem 1036 (by decide +kernel) rfl), (tt_mem 1037 (by decide +kernel) rfl), (tt_mem 1038 (by decide +kernel) rfl), (tt_mem 10 (by decide +kernel) rfl), (tt_mem 1039 (by decide +kernel) rfl), by decide +kernel⟩
theorem lk_L_110 : LkV RL 110 yX9_lowestIn cX9_lowestIn 4 (some .int) 1 := ⟨(tt_mem 1040 (by decide +kernel) rfl), (tt_mem 1041 (by decide +kernel) rfl), (tt_mem 1042 (by decide +kernel) rfl), (tt_mem 10 (by decide +kernel) rfl), (tt_mem 1043 (by decide +kernel) rfl), by decide +kernel⟩
theorem lk_L_114 : LkV RL 114 yX9_why cX9_why 6 (some .int) 4 := ⟨(tt_mem 1044 (by decide +kernel) rfl), (tt_mem 1045 (by decide +kernel) rfl), (tt_mem 1046 (by decide +kernel) rfl), (tt_mem 10 (by decide +kernel) rfl), (tt_mem 1047 (by decide +kernel) rfl), by decide +kernel⟩
theorem lk_L_118 : LkV RL 118 yX9_earliest cX9_earliest 4 (some .int) 3 := ⟨(tt_mem 1048 (by decide +kernel) rfl), (tt_mem 1049 (by decide +kernel) rfl), (tt_mem 1050 (by decide +kernel) rfl), (tt_mem 10 (by decide +kernel) rfl), (tt_mem 1051 (by decide +kernel) rfl), by decide +kernel⟩
theorem lk_L_122 : LkV RL 122 yX9_count cX9_count 2 (some .int) 1 := ⟨(tt_mem 1052 (by decide +kernel) rfl), (tt_mem 1053 (by decide +kernel) rfl), (tt_mem 1054 (by decide +kernel) rfl), (tt_mem 10 (by decide +kernel) rfl), (tt_mem 1055 (by decide +kernel) rfl), by decide +kernel⟩
end
section
def d_X0_has (q0 : Nat) (p1 : Int32) (M : Mem) : Ans :=
  (if p1 < 0 then (some ((0 : Int32), M)) else (if (M (sI q0 6) 0) ≤ p1 then (some ((0 : Int32), M)) else (some ((1 : Int32), M))))
def d_X0_append (q0 : Nat) (p1 : Int32) (p2 : Int32) (p3 : Int32) (M : Mem) : Ans :=
  (if (M (sI q0 6) 0) < (60 : Int32) then (chk (M (sI q0 6) 0) 60 (bnd (mup M (sI q0 7) ((M (sI q0 6) 0)).toNatClampNeg p1) fun M1 => (chk (M1 (sI q0 6) 0) 60 (bnd (mup M1 (sI q0 8) ((M1 (sI q0 6) 0)).toNatClampNeg p2) fun M2 => (chk (M2 (sI q0 6) 0) 60 (bnd (mup M2 (sI q0 9) ((M2 (sI q0 6) 0)).toNatClampNeg p3) fun M3 => (chk (M3 (sI q0 6) 0) 60 (bnd (mup M3 (sI q0 10) ((M3 (sI q0 6) 0)).toNatClampNeg (0 : Int32)) fun M4 => (chk (M4 (sI q0 6) 0) 60 (bnd (mup M4 (sI q0 11) ((M4 (sI q0 6) 0)).toNatClampNeg (0 : Int32)) fun M5 => (bnd (mup M5 (sI q0 6) 0 ((M5 (sI q0 6) 0) + (1 : Int32))) fun M6 => (some (((M6 (sI q0 6) 0) - (1 : Int32)), M6))))))))))))) else (some ((-3 : Int32), M)))
def d_X0_stateOf (q0 : Nat) (p1 : Int32) (M : Mem) : Ans :=
  (bd (d_X0_has q0 p1 M) fun r2 M1 => (if r2 = 0 then (some ((-1 : Int32), M1)) else (chk p1 60 (some ((M1 (sI q0 10) (p1).toNatClampNeg), M1)))))
def d_X0_isOpen (q0 : Nat) (p1 : Int32) (M : Mem) : Ans :=
  (bd (d_X0_has q0 p1 M) fun r2 M1 => (if r2 = 0 then (some ((0 : Int32), M1)) else (chk p1 60 (if (M1 (sI q0 10) (p1).toNatClampNeg) = 0 then (some ((1 : Int32), M1)) else (chk p1 60 (if (M1 (sI q0 10) (p1).toNatClampNeg) = (1 : Int32) then (some ((1 : Int32), M1)) else (some ((0 : Int32), M1))))))))
def d_X0_keepsBusy (q0 : Nat) (p1 : Int32) (p2 : Int32) (M : Mem) : Ans :=
  (bd (d_X0_has q0 p1 M) fun r2 M1 => (if r2 = 0 then (some ((0 : Int32), M1)) else (chk p1 60 (if (M1 (sI q0 7) (p1).toNatClampNeg) = p2 then (chk p1 60 (if (M1 (sI q0 10) (p1).toNatClampNeg) = (3 : Int32) then (some ((0 : Int32), M1)) else (chk p1 60 (if (M1 (sI q0 10) (p1).toNatClampNeg) = (4 : Int32) then (some ((0 : Int32), M1)) else (some ((1 : Int32), M1)))))) else (some ((0 : Int32), M1))))))
def d_X0_inState_B25 (q0 : Nat) (kx1 : Int32 → Mem → Ans) (kb : Int32 → Int32 → Mem → Ans) (a1 : Int32) (a2 : Int32) (a3 : Int32) (M : Mem) : Ans :=
  (bnd (a3 + (1)) fun v1 => (kb a2 v1 M))
def d_X0_inState_L4_body (q0 : Nat) (a1 : Int32) (kx1 : Int32 → Mem → Ans) (kb : Int32 → Int32 → Mem → Ans) (a2 : Int32) (a3 : Int32) (M : Mem) : Ans :=
  (if (M (sI q0 6) 0) ≤ a3 then (kx1 a2 M) else (chk a3 60 (if (M (sI q0 10) (a3).toNatClampNeg) = a1 then (bnd (a2 + (1)) fun v2 => (d_X0_inState_B25 q0 kx1 kb a1 v2 a3 M)) else (d_X0_inState_B25 q0 kx1 kb a1 a2 a3 M))))
def d_X0_inState_L4 (q0 : Nat) (a1 : Int32) (kx1 : Int32 → Mem → Ans) : Nat → Int32 → Int32 → Mem → Ans
  | 0 => fun _ _ _ => none
  | n + 1 => fun a2 a3 M => d_X0_inState_L4_body q0 a1 kx1 (d_X0_inState_L4 q0 a1 kx1 n) a2 a3 M
def d_X0_inState (q0 : Nat) (p1 : Int32) (M : Mem) : Ans :=
  (d_X0_inState_L4 q0 p1 (fun v3 M4 => (some (v3, M4))) fuelN (0 : Int32) (0 : Int32) M)
def d_X0_ofRobot_B39 (q0 : Nat) (kx1 : Int32 → Mem → Ans) (kb : Int32 → Int32 → Mem → Ans) (a1 : Int32) (a2 : Int32) (a3 : Int32) (a4 : Int32) (M : Mem) : Ans :=
  (bnd (a4 + (1)) fun v1 => (kb a3 v1 M))
def d_X0_ofRobot_L5_body (q0 : Nat) (a1 : Int32) (a2 : Int32) (kx1 : Int32 → Mem → Ans) (kb : Int32 → Int32 → Mem → Ans) (a3 : Int32) (a4 : Int32) (M : Mem) : Ans :=
  (if (M (sI q0 6) 0) ≤ a4 then (kx1 a3 M) else (chk a4 60 (if (M (sI q0 7) (a4).toNatClampNeg) = a1 then (chk a4 60 (if (M (sI q0 10) (a4).toNatClampNeg) = a2 then (bnd (a3 + (1)) fun v2 => (d_X0_ofRobot_B39 q0 kx1 kb a1 a2 v2 a4 M)) else (d_X0_ofRobot_B39 q0 kx1 kb a1 a2 a3 a4 M))) else (d_X0_ofRobot_B39 q0 kx1 kb a1 a2 a3 a4 M))))
def d_X0_ofRobot_L5 (q0 : Nat) (a1 : Int32) (a2 : Int32) (kx1 : Int32 → Mem → Ans) : Nat → Int32 → Int32 → Mem → Ans
  | 0 => fun _ _ _ => none
  | n + 1 => fun a3 a4 M => d_X0_ofRobot_L5_body q0 a1 a2 kx1 (d_X0_ofRobot_L5 q0 a1 a2 kx1 n) a3 a4 M
def d_X0_ofRobot (q0 : Nat) (p1 : Int32) (p2 : Int32) (M : Mem) : Ans :=
  (d_X0_ofRobot_L5 q0 p1 p2 (fun v3 M4 => (some (v3, M4))) fuelN (0 : Int32) (0 : Int32) M)
def d_X0_doneOfRecipe_B35 (q0 : Nat) (kx1 : Int32 → Mem → Ans) (kb : Int32 → Int32 → Mem → Ans) (a1 : Int32) (a2 : Int32) (a3 : Int32) (M : Mem) : Ans :=
  (bnd (a3 + (1)) fun v1 => (kb a2 v1 M))
def d_X0_doneOfRecipe_L4_body (q0 : Nat) (a1 : Int32) (kx1 : Int32 → Mem → Ans) (kb : Int32 → Int32 → Mem → Ans) (a2 : Int32) (a3 : Int32) (M : Mem) : Ans :=
  (if (M (sI q0 6) 0) ≤ a3 then (kx1 a2 M) else (chk a3 60 (if (M (sI q0 8) (a3).toNatClampNeg) = a1 then (chk a3 60 (if (M (sI q0 10) (a3).toNatClampNeg) = (2 : Int32) then (bnd (a2 + (1)) fun v2 => (d_X0_doneOfRecipe_B35 q0 kx1 kb a1 v2 a3 M)) else (d_X0_doneOfRecipe_B35 q0 kx1 kb a1 a2 a3 M))) else (d_X0_doneOfRecipe_B35 q0 kx1 kb a1 a2 a3 M))))
def d_X0_doneOfRecipe_L4 (q0 : Nat) (a1 : Int32) (kx1 : Int32 → Mem → Ans) : Nat → Int32 → Int32 → Mem → Ans
  | 0 => fun _ _ _ => none
  | n + 1 => fun a2 a3 M => d_X0_doneOfRecipe_L4_body q0 a1 kx1 (d_X0_doneOfRecipe_L4 q0 a1 kx1 n) a2 a3 M
def d_X0_doneOfRecipe (q0 : Nat) (p1 : Int32) (M : Mem) : Ans :=
  (d_X0_doneOfRecipe_L4 q0 p1 (fun v3 M4 => (some (v3, M4))) fuelN (0 : Int32) (0 : Int32) M)
def d_X0_copyFrom (q0 : Nat) (q1 : Nat) (M : Mem) : Ans :=
  (bnd (mup M (sI q0 6) 0 (M (sI q1 6) 0)) fun M1 => (bnd (mset M1 (sI q0 7) (va_cpy (M1 (sI q1 7)) (M1 (sI q0 7)) 0 0 60)) fun M2 => (bnd (mset M2 (sI q0 8) (va_cpy (M2 (sI q1 8)) (M2 (sI q0 8)) 0 0 60)) fun M3 => (bnd (mset M3 (sI q0 9) (va_cpy (M3 (sI q1 9)) (M3 (sI q0 9)) 0 0 60)) fun M4 => (bnd (mset M4 (sI q0 10) (va_cpy (M4 (sI q1 10)) (M4 (sI q0 10)) 0 0 60)) fun M5 => (bnd (mset M5 (sI q0 11) (va_cpy (M5 (sI q1 11)) (M5 (sI q0 11)) 0 0 60)) fun M6 => (some (0, M6))))))))
def d_X4_has (q0 : Nat) (p1 : Int32) (M : Mem) : Ans :=
  (if p1 < 0 then (some ((0 : Int32), M)) else (if (M (sI q0 1) 0) ≤ p1 then (some ((0 : Int32), M)) else (some ((1 : Int32), M))))
def d_X1_addRow_B94 (q0 : Nat) (q1 : Nat) (a3 : Int32) (a4 : Int32) (s0 : Int32) (s1 : Int32) (M : Mem) : Ans :=
  (chk s1 61 (bnd (mup M (cI q0 3) (s1).toNatClampNeg s0) fun M7 => (chk (M7 (cI q0 0) 6) 61 (bnd (mup M7 (cI q0 4) ((M7 (cI q0 0) 6)).toNatClampNeg (-5 : Int32)) fun M8 => (chk (M8 (cI q0 0) 6) 61 (bnd (mup M8 (cI q0 5) ((M8 (cI q0 0) 6)).toNatClampNeg (1000000 : Int32)) fun M9 => (chk a3 8 (chk (M9 (cI q0 0) 6) 61 (bnd (mup M9 (cI q0 6) ((M9 (cI q0 0) 6)).toNatClampNeg (M9 (sI q1 2) (a3).toNatClampNeg)) fun M10 => (chk a3 8 (chk (M10 (cI q0 0) 6) 61 (bnd (mup M10 (cI q0 7) ((M10 (cI q0 0) 6)).toNatClampNeg (M10 (sI q1 3) (a3).toNatClampNeg)) fun M11 => (chk (M11 (cI q0 0) 6) 61 (bnd (mup M11 (cI q0 8) ((M11 (cI q0 0) 6)).toNatClampNeg a4) fun M12 => (chk a3 8 (chk (M12 (cI q0 0) 6) 61 (bnd (mup M12 (cI q0 9) ((M12 (cI q0 0) 6)).toNatClampNeg ((a4 + (M12 (sI q1 4) (a3).toNatClampNeg)) - (1 : Int32))) fun M13 => (bnd (mup M13 (cI q0 0) 6 ((M13 (cI q0 0) 6) + (1 : Int32))) fun M14 => (some (0, M14))))))))))))))))))))
def d_X1_addRow_B67 (q0 : Nat) (q1 : Nat) (a2 : Int32) (a3 : Int32) (a4 : Int32) (a5 : Int32) (s0 : Int32) (s1 : Int32) (M : Mem) : Ans :=
  (chk s1 61 (bnd (mup M (cI q0 2) (s1).toNatClampNeg s0) fun M6 => (if a5 = 0 then (d_X1_addRow_B94 q0 q1 a3 a4 (0 : Int32) (M6 (cI q0 0) 6) M6) else (chk a2 60 (d_X1_addRow_B94 q0 q1 a3 a4 (M6 (sI q1 11) (a2).toNatClampNeg) (M6 (cI q0 0) 6) M6)))))
def d_X1_addRow (q0 : Nat) (q1 : Nat) (p2 : Int32) (p3 : Int32) (p4 : Int32) (M : Mem) : Ans :=
  (if (61 : Int32) ≤ (M (cI q0 0) 6) then (some (0, M)) else (bd (d_X4_has q1 p3 M) fun r2 M1 => (if r2 = 0 then (some (0, M1)) else (bd (d_X0_has q1 p2 M1) fun r4 M3 => (chk (M3 (cI q0 0) 6) 61 (bnd (mup M3 (cI q0 1) ((M3 (cI q0 0) 6)).toNatClampNeg p2) fun M5 => (if r4 = 0 then (d_X1_addRow_B67 q0 q1 p2 p3 p4 r4 (0 : Int32) (M5 (cI q0 0) 6) M5) else (chk p2 60 (d_X1_addRow_B67 q0 q1 p2 p3 p4 r4 (M5 (sI q1 10) (p2).toNatClampNeg) (M5 (cI q0 0) 6) M5)))))))))
def d_X1_beginWith_B132 (q0 : Nat) (q1 : Nat) (kx1 : Mem → Ans) (kb : Int32 → Mem → Ans) (a2 : Int32) (a3 : Int32) (a4 : Int32) (a5 : Int32) (M : Mem) : Ans :=
  (bnd (a5 + (1)) fun v8 => (kb v8 M))
def d_X1_beginWith_B111 (q0 : Nat) (q1 : Nat) (kx1 : Mem → Ans) (kb : Int32 → Mem → Ans) (a2 : Int32) (a3 : Int32) (a4 : Int32) (a5 : Int32) (M : Mem) : Ans :=
  (if a5 = a2 then (if a4 = (-1 : Int32) then (d_X1_beginWith_B132 q0 q1 kx1 kb a2 a3 a4 a5 M) else (bd (d_X1_addRow q0 q1 a2 a3 a4 M) fun r10 M9 => (d_X1_beginWith_B132 q0 q1 kx1 kb a2 a3 a4 a5 M9))) else (d_X1_beginWith_B132 q0 q1 kx1 kb a2 a3 a4 a5 M))
def d_X1_beginWith_L51_body (q0 : Nat) (q1 : Nat) (a2 : Int32) (a3 : Int32) (a4 : Int32) (kx1 : Mem → Ans) (kb : Int32 → Mem → Ans) (a5 : Int32) (M : Mem) : Ans :=
  (if (M (sI q1 6) 0) ≤ a5 then (kx1 M) else (if a5 = a2 then (d_X1_beginWith_B111 q0 q1 kx1 kb a2 a3 a4 a5 M) else (bd (d_X0_isOpen q1 a5 M) fun r12 M11 => (if r12 = 0 then (d_X1_beginWith_B111 q0 q1 kx1 kb a2 a3 a4 a5 M11) else (chk a5 60 (chk a5 60 (bd (d_X1_addRow q0 q1 a5 (M11 (sI q1 8) (a5).toNatClampNeg) (M11 (sI q1 9) (a5).toNatClampNeg) M11) fun r14 M13 => (d_X1_beginWith_B132 q0 q1 kx1 kb a2 a3 a4 a5 M13))))))))
def d_X1_beginWith_L51 (q0 : Nat) (q1 : Nat) (a2 : Int32) (a3 : Int32) (a4 : Int32) (kx1 : Mem → Ans) : Nat → Int32 → Mem → Ans
  | 0 => fun _ _ => none
  | n + 1 => fun a5 M => d_X1_beginWith_L51_body q0 q1 a2 a3 a4 kx1 (d_X1_beginWith_L51 q0 q1 a2 a3 a4 kx1 n) a5 M
def d_X1_beginWith_B164 (q0 : Nat) (q1 : Nat) (M : Mem) : Ans :=
  (bnd (mup M (cI q0 0) 7 (M (cI q0 0) 6)) fun M16 => (some (0, M16)))
def d_X1_beginWith (q0 : Nat) (q1 : Nat) (p2 : Int32) (p3 : Int32) (p4 : Int32) (M : Mem) : Ans :=
  (bnd (mup M (cI q0 0) 0 (M (sI q1 0) 0)) fun M1 => (bnd (mup M1 (cI q0 0) 1 (M1 (sI q1 0) 1)) fun M2 => (bnd (mup M2 (cI q0 0) 2 (M2 (sI q1 0) 2)) fun M3 => (bnd (mup M3 (cI q0 0) 3 (M3 (sI q1 0) 3)) fun M4 => (bnd (mup M4 (cI q0 0) 4 (1000000 : Int32)) fun M5 => (bnd (mup M5 (cI q0 0) 5 (0 : Int32)) fun M6 => (bnd (mup M6 (cI q0 0) 6 (0 : Int32)) fun M7 => (d_X1_beginWith_L51 q0 q1 p2 p3 p4 (fun M15 => (if p2 < (M15 (sI q1 6) 0) then (d_X1_beginWith_B164 q0 q1 M15) else (if p4 = (-1 : Int32) then (d_X1_beginWith_B164 q0 q1 M15) else (bd (d_X1_addRow q0 q1 p2 p3 p4 M15) fun r18 M17 => (d_X1_beginWith_B164 q0 q1 M17))))) fuelN (0 : Int32) M7))))))))
def d_X1_begin (q0 : Nat) (q1 : Nat) (M : Mem) : Ans :=
  (bd (d_X1_beginWith q0 q1 (-1 : Int32) (-1 : Int32) (-1 : Int32) M) fun r2 M1 => (some (0, M1)))
def d_X1_drawFor_B100 (q0 : Nat) (a1 : Int32) (s0 : Int32) (M : Mem) : Ans :=
  (bnd (mup M (cI q0 0) 1 ((M (cI q0 0) 1) - s0)) fun M2 => (bnd (mup M2 (cI q0 0) 5 ((M2 (cI q0 0) 5) + s0)) fun M3 => (chk a1 61 (chk a1 61 (bnd (mup M3 (cI q0 3) (a1).toNatClampNeg ((M3 (cI q0 3) (a1).toNatClampNeg) + (1 : Int32))) fun M4 => (chk a1 61 (bnd (mup M4 (cI q0 2) (a1).toNatClampNeg (1 : Int32)) fun M5 => (chk a1 61 (if (M5 (cI q0 0) 0) = (M5 (cI q0 9) (a1).toNatClampNeg) then (chk a1 61 (bnd (mup M5 (cI q0 2) (a1).toNatClampNeg (2 : Int32)) fun M6 => (bnd (mup M6 (cI q0 0) 7 ((M6 (cI q0 0) 7) - (1 : Int32))) fun M7 => (some (0, M7))))) else (some (0, M5)))))))))))
def d_X1_drawFor_B42 (q0 : Nat) (a1 : Int32) (a2 : Int32) (M : Mem) : Ans :=
  (if 0 ≤ a2 then (chk a1 61 (if (M (cI q0 0) 1) ≤ (M (cI q0 7) (a1).toNatClampNeg) then (d_X1_drawFor_B100 q0 a1 (M (cI q0 0) 1) M) else (chk a1 61 (d_X1_drawFor_B100 q0 a1 (M (cI q0 7) (a1).toNatClampNeg) M)))) else (chk a1 61 (bnd (mup M (cI q0 2) (a1).toNatClampNeg (3 : Int32)) fun M8 => (chk a1 61 (bnd (mup M8 (cI q0 4) (a1).toNatClampNeg (M8 (cI q0 0) 0)) fun M9 => (bnd (mup M9 (cI q0 0) 7 ((M9 (cI q0 0) 7) - (1 : Int32))) fun M10 => (some (0, M10))))))))
def d_X1_drawFor (q0 : Nat) (p1 : Int32) (M : Mem) : Ans :=
  (if p1 < 0 then (some (0, M)) else (if p1 < (M (cI q0 0) 6) then (chk p1 61 (bnd ((M (cI q0 0) 1) - (M (cI q0 6) (p1).toNatClampNeg)) fun v1 => (chk p1 61 (if (M (cI q0 5) (p1).toNatClampNeg) ≤ v1 then (d_X1_drawFor_B42 q0 p1 v1 M) else (chk p1 61 (bnd (mup M (cI q0 5) (p1).toNatClampNeg v1) fun M11 => (d_X1_drawFor_B42 q0 p1 v1 M11))))))) else (some (0, M))))
def d_X1_passTick_B81 (q0 : Nat) (kx1 : Mem → Ans) (kb : Int32 → Mem → Ans) (a1 : Int32) (M : Mem) : Ans :=
  (bnd (a1 + (1)) fun v3 => (kb v3 M))
def d_X1_passTick_L32_body (q0 : Nat) (kx1 : Mem → Ans) (kb : Int32 → Mem → Ans) (a1 : Int32) (M : Mem) : Ans :=
  (if (M (cI q0 0) 6) ≤ a1 then (kx1 M) else (chk a1 61 (if (M (cI q0 0) 0) < (M (cI q0 8) (a1).toNatClampNeg) then (d_X1_passTick_B81 q0 kx1 kb a1 M) else (chk a1 61 (if (M (cI q0 9) (a1).toNatClampNeg) < (M (cI q0 0) 0) then (d_X1_passTick_B81 q0 kx1 kb a1 M) else (chk a1 61 (if (M (cI q0 2) (a1).toNatClampNeg) = (3 : Int32) then (d_X1_passTick_B81 q0 kx1 kb a1 M) else (bd (d_X1_drawFor q0 a1 M) fun r5 M4 => (d_X1_passTick_B81 q0 kx1 kb a1 M4)))))))))
def d_X1_passTick_L32 (q0 : Nat) (kx1 : Mem → Ans) : Nat → Int32 → Mem → Ans
  | 0 => fun _ _ => none
  | n + 1 => fun a1 M => d_X1_passTick_L32_body q0 kx1 (d_X1_passTick_L32 q0 kx1 n) a1 M
def d_X1_passTick (q0 : Nat) (M : Mem) : Ans :=
  (bnd (mup M (cI q0 0) 0 ((M (cI q0 0) 0) + (1 : Int32))) fun M1 => (bnd (mup M1 (cI q0 0) 1 (imin (M1 (cI q0 0) 2) ((M1 (cI q0 0) 1) + (M1 (cI q0 0) 3)))) fun M2 => (d_X1_passTick_L32 q0 (fun M6 => (bnd (mup M6 (cI q0 0) 4 (imin (M6 (cI q0 0) 4) (M6 (cI q0 0) 1))) fun M7 => (some (0, M7)))) fuelN (0 : Int32) M2)))
def d_X1_passTicks_L2_body (q0 : Nat) (a1 : Int32) (kx1 : Mem → Ans) (kb : Int32 → Mem → Ans) (a2 : Int32) (M : Mem) : Ans :=
  (if a1 ≤ a2 then (kx1 M) else (bd (d_X1_passTick q0 M) fun r2 M1 => (bnd (a2 + (1)) fun v3 => (kb v3 M1))))
def d_X1_passTicks_L2 (q0 : Nat) (a1 : Int32) (kx1 : Mem → Ans) : Nat → Int32 → Mem → Ans
  | 0 => fun _ _ => none
  | n + 1 => fun a2 M => d_X1_passTicks_L2_body q0 a1 kx1 (d_X1_passTicks_L2 q0 a1 kx1 n) a2 M
def d_X1_passTicks (q0 : Nat) (p1 : Int32) (M : Mem) : Ans :=
  (d_X1_passTicks_L2 q0 p1 (fun M4 => (some (0, M4))) fuelN (0 : Int32) M)
def d_X1_passToEnd_L2_body (q0 : Nat) (kx1 : Mem → Ans) (kb : Int32 → Mem → Ans) (a1 : Int32) (M : Mem) : Ans :=
  (if (80 : Int32) ≤ a1 then (kx1 M) else (if (M (cI q0 0) 7) ≤ 0 then (kx1 M) else (bd (d_X1_passTick q0 M) fun r2 M1 => (bnd (a1 + (1)) fun v3 => (kb v3 M1)))))
def d_X1_passToEnd_L2 (q0 : Nat) (kx1 : Mem → Ans) : Nat → Int32 → Mem → Ans
  | 0 => fun _ _ => none
  | n + 1 => fun a1 M => d_X1_passToEnd_L2_body q0 kx1 (d_X1_passToEnd_L2 q0 kx1 n) a1 M
def d_X1_passToEnd (q0 : Nat) (M : Mem) : Ans :=
  (d_X1_passToEnd_L2 q0 (fun M4 => (some (0, M4))) fuelN (0 : Int32) M)
def d_X1_rowOf_L2_body (q0 : Nat) (a1 : Int32) (kx1 : Mem → Ans) (kb : Int32 → Mem → Ans) (a2 : Int32) (M : Mem) : Ans :=
  (if (M (cI q0 0) 6) ≤ a2 then (kx1 M) else (chk a2 61 (if (M (cI q0 1) (a2).toNatClampNeg) = a1 then (some (a2, M)) else (bnd (a2 + (1)) fun v1 => (kb v1 M)))))
def d_X1_rowOf_L2 (q0 : Nat) (a1 : Int32) (kx1 : Mem → Ans) : Nat → Int32 → Mem → Ans
  | 0 => fun _ _ => none
  | n + 1 => fun a2 M => d_X1_rowOf_L2_body q0 a1 kx1 (d_X1_rowOf_L2 q0 a1 kx1 n) a2 M
def d_X1_rowOf (q0 : Nat) (p1 : Int32) (M : Mem) : Ans :=
  (d_X1_rowOf_L2 q0 p1 (fun M2 => (some ((-1 : Int32), M2))) fuelN (0 : Int32) M)
def d_X1_countSpoiled_B25 (q0 : Nat) (kx1 : Int32 → Mem → Ans) (kb : Int32 → Int32 → Mem → Ans) (a1 : Int32) (a2 : Int32) (M : Mem) : Ans :=
  (bnd (a2 + (1)) fun v1 => (kb a1 v1 M))
def d_X1_countSpoiled_L4_body (q0 : Nat) (kx1 : Int32 → Mem → Ans) (kb : Int32 → Int32 → Mem → Ans) (a1 : Int32) (a2 : Int32) (M : Mem) : Ans :=
  (if (M (cI q0 0) 6) ≤ a2 then (kx1 a1 M) else (chk a2 61 (if (M (cI q0 2) (a2).toNatClampNeg) = (3 : Int32) then (bnd (a1 + (1)) fun v2 => (d_X1_countSpoiled_B25 q0 kx1 kb v2 a2 M)) else (d_X1_countSpoiled_B25 q0 kx1 kb a1 a2 M))))
def d_X1_countSpoiled_L4 (q0 : Nat) (kx1 : Int32 → Mem → Ans) : Nat → Int32 → Int32 → Mem → Ans
  | 0 => fun _ _ _ => none
  | n + 1 => fun a1 a2 M => d_X1_countSpoiled_L4_body q0 kx1 (d_X1_countSpoiled_L4 q0 kx1 n) a1 a2 M
def d_X1_countSpoiled (q0 : Nat) (M : Mem) : Ans :=
  (d_X1_countSpoiled_L4 q0 (fun v3 M4 => (some (v3, M4))) fuelN (0 : Int32) (0 : Int32) M)
def d_X2_dropOldest_L9_body (q1 : Nat) (kx1 : Mem → Ans) (kb : Int32 → Mem → Ans) (a2 : Int32) (M : Mem) : Ans :=
  (if (4 : Int32) ≤ a2 then (kx1 M) else (chk a2 4 (stk (M 135 (a2).toNatClampNeg) fun q2 => (chk (a2 - (1 : Int32)) 4 (bnd (mup M 135 ((a2 - (1 : Int32))).toNatClampNeg (nI q2)) fun M3 => (bnd (a2 + (1)) fun v4 => (kb v4 M3)))))))
def d_X2_dropOldest_L9 (q1 : Nat) (kx1 : Mem → Ans) : Nat → Int32 → Mem → Ans
  | 0 => fun _ _ => none
  | n + 1 => fun a2 M => d_X2_dropOldest_L9_body q1 kx1 (d_X2_dropOldest_L9 q1 kx1 n) a2 M
def d_X2_dropOldest (M : Mem) : Ans :=
  (chk (0 : Int32) 4 (stk (M 135 ((0 : Int32)).toNatClampNeg) fun q1 => (d_X2_dropOldest_L9 q1 (fun M5 => (chk (3 : Int32) 4 (bnd (mup M5 135 ((3 : Int32)).toNatClampNeg (nI q1)) fun M6 => (bnd (mup M6 134 1 ((M6 134 1) - (1 : Int32))) fun M7 => (some (0, M7)))))) fuelN (1 : Int32) M)))
def d_X4_copyFrom (q0 : Nat) (q1 : Nat) (M : Mem) : Ans :=
  (bnd (mup M (sI q0 1) 0 (M (sI q1 1) 0)) fun M1 => (bnd (mset M1 (sI q0 2) (va_cpy (M1 (sI q1 2)) (M1 (sI q0 2)) 0 0 8)) fun M2 => (bnd (mset M2 (sI q0 3) (va_cpy (M2 (sI q1 3)) (M2 (sI q0 3)) 0 0 8)) fun M3 => (bnd (mset M3 (sI q0 4) (va_cpy (M3 (sI q1 4)) (M3 (sI q0 4)) 0 0 8)) fun M4 => (bnd (mset M4 (sI q0 5) (va_cpy (M4 (sI q1 5)) (M4 (sI q0 5)) 0 0 8)) fun M5 => (some (0, M5)))))))
def d_X7_copyFrom (q0 : Nat) (q1 : Nat) (M : Mem) : Ans :=
  (bnd (mup M (sI q0 12) 0 (M (sI q1 12) 0)) fun M1 => (bnd (mset M1 (sI q0 13) (va_cpy (M1 (sI q1 13)) (M1 (sI q0 13)) 0 0 8)) fun M2 => (bnd (mset M2 (sI q0 14) (va_cpy (M2 (sI q1 14)) (M2 (sI q0 14)) 0 0 8)) fun M3 => (bnd (mset M3 (sI q0 15) (va_cpy (M3 (sI q1 15)) (M3 (sI q0 15)) 0 0 8)) fun M4 => (some (0, M4))))))
def d_X5_copyFrom (q0 : Nat) (q1 : Nat) (M : Mem) : Ans :=
  (bnd (mup M (sI q0 0) 0 (M (sI q1 0) 0)) fun M1 => (bnd (mup M1 (sI q0 0) 1 (M1 (sI q1 0) 1)) fun M2 => (bnd (mup M2 (sI q0 0) 2 (M2 (sI q1 0) 2)) fun M3 => (bnd (mup M3 (sI q0 0) 3 (M3 (sI q1 0) 3)) fun M4 => (bnd (mup M4 (sI q0 0) 4 (M4 (sI q1 0) 4)) fun M5 => (bnd (mup M5 (sI q0 0) 5 (M5 (sI q1 0) 5)) fun M6 => (bnd (mup M6 (sI q0 0) 6 (M6 (sI q1 0) 6)) fun M7 => (bd (d_X4_copyFrom q0 q1 M7) fun r9 M8 => (bd (d_X0_copyFrom q0 q1 M8) fun r11 M10 => (bd (d_X7_copyFrom q0 q1 M10) fun r13 M12 => (some (0, M12))))))))))))
def d_X2_push_B12 (q1 : Nat) (M : Mem) : Ans :=
  (if (M 134 1) < 0 then (some (0, M)) else (if (M 134 1) < (4 : Int32) then (chk (M 134 1) 4 (stk (M 135 ((M 134 1)).toNatClampNeg) fun q1 => (bd (d_X5_copyFrom q1 q1 M) fun r3 M2 => (bnd (mup M2 134 1 ((M2 134 1) + (1 : Int32))) fun M4 => (some (0, M4)))))) else (some (0, M))))
def d_X2_push (q1 : Nat) (M : Mem) : Ans :=
  (if (M 134 1) < (4 : Int32) then (d_X2_push_B12 q1 M) else (bd (d_X2_dropOldest M) fun r6 M5 => (d_X2_push_B12 q1 M5)))
def d_X2_popInto (q1 : Nat) (M : Mem) : Ans :=
  (if (M 134 1) ≤ 0 then (some (0, M)) else (if (M 134 1) ≤ (4 : Int32) then (bnd (mup M 134 1 ((M 134 1) - (1 : Int32))) fun M1 => (chk (M1 134 1) 4 (stk (M1 135 ((M1 134 1)).toNatClampNeg) fun q2 => (bd (d_X5_copyFrom q1 q2 M1) fun r4 M3 => (some (0, M3)))))) else (some (0, M))))
def d_X3_forecastWithout_L20_body (q1 : Nat) (kx1 : Mem → Ans) (kb : Int32 → Mem → Ans) (a3 : Int32) (M : Mem) : Ans :=
  (if (60 : Int32) ≤ a3 then (kx1 M) else (chk a3 60 (bnd (mup M 133 (a3).toNatClampNeg (vp_nar .boolean (0 : Int32))) fun M5 => (bnd (a3 + (1)) fun v6 => (kb v6 M5)))))
def d_X3_forecastWithout_L20 (q1 : Nat) (kx1 : Mem → Ans) : Nat → Int32 → Mem → Ans
  | 0 => fun _ _ => none
  | n + 1 => fun a3 M => d_X3_forecastWithout_L20_body q1 kx1 (d_X3_forecastWithout_L20 q1 kx1 n) a3 M
def d_X3_forecastWithout_B100 (q1 : Nat) (kx1 : Mem → Ans) (kb : Int32 → Mem → Ans) (a3 : Int32) (M : Mem) : Ans :=
  (bnd (a3 + (1)) fun v9 => (kb v9 M))
def d_X3_forecastWithout_B99 (q1 : Nat) (kx1 : Mem → Ans) (kb : Int32 → Mem → Ans) (a3 : Int32) (s0 : Int32) (s1 : Int32) (M : Mem) : Ans :=
  (chk s1 60 (bnd (mup M 133 (s1).toNatClampNeg (vp_nar .boolean s0)) fun M10 => (d_X3_forecastWithout_B100 q1 kx1 kb a3 M10)))
def d_X3_forecastWithout_L41_body (q1 : Nat) (kx1 : Mem → Ans) (kb : Int32 → Mem → Ans) (a3 : Int32) (M : Mem) : Ans :=
  (if (M (cI 1 0) 6) ≤ a3 then (kx1 M) else (chk a3 61 (bnd (M (cI 1 1) (a3).toNatClampNeg) fun v8 => (if v8 < 0 then (d_X3_forecastWithout_B100 q1 kx1 kb a3 M) else (if (60 : Int32) ≤ v8 then (d_X3_forecastWithout_B100 q1 kx1 kb a3 M) else (chk a3 61 (if (M (cI 1 2) (a3).toNatClampNeg) = (3 : Int32) then (d_X3_forecastWithout_B99 q1 kx1 kb a3 (1 : Int32) v8 M) else (d_X3_forecastWithout_B99 q1 kx1 kb a3 (0 : Int32) v8 M))))))))
def d_X3_forecastWithout_L41 (q1 : Nat) (kx1 : Mem → Ans) : Nat → Int32 → Mem → Ans
  | 0 => fun _ _ => none
  | n + 1 => fun a3 M => d_X3_forecastWithout_L41_body q1 kx1 (d_X3_forecastWithout_L41 q1 kx1 n) a3 M
def d_X3_forecastWithout (q1 : Nat) (p2 : Int32) (M : Mem) : Ans :=
  (bd (d_X1_beginWith 1 q1 p2 (-1 : Int32) (-1 : Int32) M) fun r2 M1 => (bd (d_X1_passToEnd 1 M1) fun r4 M3 => (d_X3_forecastWithout_L20 q1 (fun M7 => (d_X3_forecastWithout_L41 q1 (fun M11 => (some (0, M11))) fuelN (0 : Int32) M7)) fuelN (0 : Int32) M3)))
def d_X4_lastBusy (q0 : Nat) (p1 : Int32) (p2 : Int32) (M : Mem) : Ans :=
  (bd (d_X4_has q0 p1 M) fun r2 M1 => (if r2 = 0 then (some (p2, M1)) else (chk p1 8 (chk p1 8 (some ((((p2 + (M1 (sI q0 4) (p1).toNatClampNeg)) - (1 : Int32)) + (M1 (sI q0 5) (p1).toNatClampNeg)), M1))))))
def d_X5_firstMeeting_B83 (q0 : Nat) (kx1 : Mem → Ans) (kb : Int32 → Mem → Ans) (a1 : Int32) (a2 : Int32) (a3 : Int32) (a4 : Int32) (a5 : Int32) (M : Mem) : Ans :=
  (bnd (a5 + (1)) fun v1 => (kb v1 M))
def d_X5_firstMeeting_L3_body (q0 : Nat) (a1 : Int32) (a2 : Int32) (a3 : Int32) (a4 : Int32) (kx1 : Mem → Ans) (kb : Int32 → Mem → Ans) (a5 : Int32) (M : Mem) : Ans :=
  (if (M (sI q0 6) 0) ≤ a5 then (kx1 M) else (if a5 = a4 then (d_X5_firstMeeting_B83 q0 kx1 kb a1 a2 a3 a4 a5 M) else (bd (d_X0_keepsBusy q0 a5 a1 M) fun r3 M2 => (if r3 = 0 then (d_X5_firstMeeting_B83 q0 kx1 kb a1 a2 a3 a4 a5 M2) else (chk a5 60 (if a3 < (M2 (sI q0 9) (a5).toNatClampNeg) then (d_X5_firstMeeting_B83 q0 kx1 kb a1 a2 a3 a4 a5 M2) else (chk a5 60 (chk a5 60 (bd (d_X4_lastBusy q0 (M2 (sI q0 8) (a5).toNatClampNeg) (M2 (sI q0 9) (a5).toNatClampNeg) M2) fun r5 M4 => (if r5 < a2 then (d_X5_firstMeeting_B83 q0 kx1 kb a1 a2 a3 a4 a5 M4) else (some (a5, M4))))))))))))
def d_X5_firstMeeting_L3 (q0 : Nat) (a1 : Int32) (a2 : Int32) (a3 : Int32) (a4 : Int32) (kx1 : Mem → Ans) : Nat → Int32 → Mem → Ans
  | 0 => fun _ _ => none
  | n + 1 => fun a5 M => d_X5_firstMeeting_L3_body q0 a1 a2 a3 a4 kx1 (d_X5_firstMeeting_L3 q0 a1 a2 a3 a4 kx1 n) a5 M
def d_X5_firstMeeting (q0 : Nat) (p1 : Int32) (p2 : Int32) (p3 : Int32) (p4 : Int32) (M : Mem) : Ans :=
  (d_X5_firstMeeting_L3 q0 p1 p2 p3 p4 (fun M6 => (some ((-1 : Int32), M6))) fuelN (0 : Int32) M)
def d_X3_wasDoomed (p1 : Int32) (M : Mem) : Ans :=
  (if p1 < 0 then (some ((0 : Int32), M)) else (if (60 : Int32) ≤ p1 then (some ((0 : Int32), M)) else (chk p1 60 (if (M 133 (p1).toNatClampNeg) = 0 then (some ((0 : Int32), M)) else (some ((1 : Int32), M))))))
def d_X3_reasonByOthers_B69 (kx1 : Mem → Ans) (kb : Int32 → Mem → Ans) (a1 : Int32) (a2 : Int32) (M : Mem) : Ans :=
  (bnd (a2 + (1)) fun v2 => (kb v2 M))
def d_X3_reasonByOthers_L2_body (a1 : Int32) (kx1 : Mem → Ans) (kb : Int32 → Mem → Ans) (a2 : Int32) (M : Mem) : Ans :=
  (if (M (cI 1 0) 6) ≤ a2 then (kx1 M) else (chk a2 61 (bnd (M (cI 1 1) (a2).toNatClampNeg) fun v1 => (if v1 = a1 then (d_X3_reasonByOthers_B69 kx1 kb a1 a2 M) else (chk a2 61 (if (M (cI 1 2) (a2).toNatClampNeg) = (3 : Int32) then (bd (d_X3_wasDoomed v1 M) fun r4 M3 => (if r4 = 0 then (bnd (mup M3 132 2 v1) fun M5 => (chk a2 61 (bnd (mup M5 132 3 (M5 (cI 1 4) (a2).toNatClampNeg)) fun M6 => (some ((3 : Int32), M6))))) else (d_X3_reasonByOthers_B69 kx1 kb a1 a2 M3))) else (d_X3_reasonByOthers_B69 kx1 kb a1 a2 M)))))))
def d_X3_reasonByOthers_L2 (a1 : Int32) (kx1 : Mem → Ans) : Nat → Int32 → Mem → Ans
  | 0 => fun _ _ => none
  | n + 1 => fun a2 M => d_X3_reasonByOthers_L2_body a1 kx1 (d_X3_reasonByOthers_L2 a1 kx1 n) a2 M
def d_X3_reasonByOthers (p1 : Int32) (M : Mem) : Ans :=
  (d_X3_reasonByOthers_L2 p1 (fun M7 => (some ((0 : Int32), M7))) fuelN (0 : Int32) M)
def d_X3_reasonNow_B111 (q1 : Nat) (a2 : Int32) (M : Mem) : Ans :=
  (bd (d_X3_reasonByOthers a2 M) fun r15 M14 => (some (r15, M14)))
def d_X3_reasonNow (q1 : Nat) (p2 : Int32) (p3 : Int32) (p4 : Int32) (p5 : Int32) (M : Mem) : Ans :=
  (bnd (mup M 132 3 (-5 : Int32)) fun M1 => (bd (d_X4_lastBusy q1 p4 p5 M1) fun r3 M2 => (bd (d_X5_firstMeeting q1 p3 p5 r3 p2 M2) fun r5 M4 => (bnd (mup M4 132 2 r5) fun M6 => (if (M6 132 2) = (-1 : Int32) then (bnd (mup M6 132 2 (-5 : Int32)) fun M7 => (bd (d_X1_beginWith 1 q1 p2 p4 p5 M7) fun r9 M8 => (bd (d_X1_passToEnd 1 M8) fun r11 M10 => (bd (d_X1_rowOf 1 p2 M10) fun r13 M12 => (if r13 = (-1 : Int32) then (d_X3_reasonNow_B111 q1 p2 M12) else (chk r13 61 (if (M12 (cI 1 2) (r13).toNatClampNeg) = (3 : Int32) then (chk r13 61 (bnd (mup M12 132 3 (M12 (cI 1 4) (r13).toNatClampNeg)) fun M16 => (some ((2 : Int32), M16)))) else (d_X3_reasonNow_B111 q1 p2 M12)))))))) else (some ((1 : Int32), M6)))))))
def d_X3_reasonAgainst (q1 : Nat) (p2 : Int32) (p3 : Int32) (p4 : Int32) (p5 : Int32) (M : Mem) : Ans :=
  (bd (d_X3_forecastWithout q1 p2 M) fun r2 M1 => (bd (d_X3_reasonNow q1 p2 p3 p4 p5 M1) fun r4 M3 => (some (r4, M3))))
def d_X3_firstFit_L37_body (q1 : Nat) (a2 : Int32) (a3 : Int32) (a4 : Int32) (a8 : Int32) (kx1 : Mem → Ans) (kb : Int32 → Mem → Ans) (a9 : Int32) (M : Mem) : Ans :=
  (if a8 < a9 then (kx1 M) else (bd (d_X3_reasonNow q1 a2 a3 a4 a9 M) fun r6 M5 => (if r6 = 0 then (some (a9, M5)) else (bnd (a9 + (1)) fun v7 => (kb v7 M5)))))
def d_X3_firstFit_L37 (q1 : Nat) (a2 : Int32) (a3 : Int32) (a4 : Int32) (a8 : Int32) (kx1 : Mem → Ans) : Nat → Int32 → Mem → Ans
  | 0 => fun _ _ => none
  | n + 1 => fun a9 M => d_X3_firstFit_L37_body q1 a2 a3 a4 a8 kx1 (d_X3_firstFit_L37 q1 a2 a3 a4 a8 kx1 n) a9 M
def d_X3_firstFit (q1 : Nat) (p2 : Int32) (p3 : Int32) (p4 : Int32) (p5 : Int32) (p6 : Int32) (M : Mem) : Ans :=
  (bd (d_X3_forecastWithout q1 p2 M) fun r2 M1 => (bnd (imax p5 ((M1 (sI q1 0) 0) + (1 : Int32))) fun v3 => (bnd (imin p6 ((M1 (sI q1 0) 0) + (60 : Int32))) fun v4 => (d_X3_firstFit_L37 q1 p2 p3 p4 v4 (fun M8 => (some ((-5 : Int32), M8))) fuelN v3 M1))))
def d_X4_append (q0 : Nat) (p1 : Int32) (p2 : Int32) (p3 : Int32) (p4 : Int32) (M : Mem) : Ans :=
  (if (M (sI q0 1) 0) < (8 : Int32) then (chk (M (sI q0 1) 0) 8 (bnd (mup M (sI q0 2) ((M (sI q0 1) 0)).toNatClampNeg p1) fun M1 => (chk (M1 (sI q0 1) 0) 8 (bnd (mup M1 (sI q0 3) ((M1 (sI q0 1) 0)).toNatClampNeg p2) fun M2 => (chk (M2 (sI q0 1) 0) 8 (bnd (mup M2 (sI q0 4) ((M2 (sI q0 1) 0)).toNatClampNeg p3) fun M3 => (chk (M3 (sI q0 1) 0) 8 (bnd (mup M3 (sI q0 5) ((M3 (sI q0 1) 0)).toNatClampNeg p4) fun M4 => (bnd (mup M4 (sI q0 1) 0 ((M4 (sI q0 1) 0) + (1 : Int32))) fun M5 => (some (((M5 (sI q0 1) 0) - (1 : Int32)), M5))))))))))) else (some ((-3 : Int32), M)))
def d_X5_canStart (q0 : Nat) (p1 : Int32) (M : Mem) : Ans :=
  (if p1 ≤ (M (sI q0 0) 0) then (some ((0 : Int32), M)) else (if ((M (sI q0 0) 0) + (60 : Int32)) < p1 then (some ((0 : Int32), M)) else (some ((1 : Int32), M))))
def d_X5_isBusyIn (q0 : Nat) (p1 : Int32) (p2 : Int32) (M : Mem) : Ans :=
  (bd (d_X5_firstMeeting q0 p1 p2 p2 (-1 : Int32) M) fun r2 M1 => (if r2 = (-1 : Int32) then (some ((0 : Int32), M1)) else (some ((1 : Int32), M1))))
def d_X5_firstFreeTick_L2_body (q0 : Nat) (a1 : Int32) (kx1 : Mem → Ans) (kb : Int32 → Mem → Ans) (a2 : Int32) (M : Mem) : Ans :=
  (if (89 : Int32) ≤ a2 then (kx1 M) else (bd (d_X5_isBusyIn q0 a1 ((M (sI q0 0) 0) + a2) M) fun r2 M1 => (if r2 = 0 then (some (((M1 (sI q0 0) 0) + a2), M1)) else (bnd (a2 + (1)) fun v3 => (kb v3 M1)))))
def d_X5_firstFreeTick_L2 (q0 : Nat) (a1 : Int32) (kx1 : Mem → Ans) : Nat → Int32 → Mem → Ans
  | 0 => fun _ _ => none
  | n + 1 => fun a2 M => d_X5_firstFreeTick_L2_body q0 a1 kx1 (d_X5_firstFreeTick_L2 q0 a1 kx1 n) a2 M
def d_X5_firstFreeTick (q0 : Nat) (p1 : Int32) (M : Mem) : Ans :=
  (d_X5_firstFreeTick_L2 q0 p1 (fun M4 => (some (((M4 (sI q0 0) 0) + (89 : Int32)), M4))) fuelN (0 : Int32) M)
def d_X6_append (p1 : Int32) (M : Mem) : Ans :=
  (if (M 136 1) < 0 then (some ((M 136 1), M)) else (if (60 : Int32) ≤ (M 136 1) then (some ((M 136 1), M)) else (chk (M 136 1) 60 (bnd (mup M 137 ((M 136 1)).toNatClampNeg (vp_nar .char p1)) fun M1 => (bnd (mup M1 136 1 ((M1 136 1) + (1 : Int32))) fun M2 => (some ((M2 136 1), M2)))))))
def d_X6_current (M : Mem) : Ans :=
  (if (M 136 6) < 0 then (some ((0 : Int32), M)) else (if (M 136 1) ≤ (M 136 6) then (some ((0 : Int32), M)) else (if (60 : Int32) ≤ (M 136 6) then (some ((0 : Int32), M)) else (chk (M 136 6) 60 (nar .char (M 137 ((M 136 6)).toNatClampNeg) (some ((M 137 ((M 136 6)).toNatClampNeg), M)))))))
def d_X6_isDigit (M : Mem) : Ans :=
  (bd (d_X6_current M) fun r2 M1 => (if r2 < (48 : Int32) then (some ((0 : Int32), M1)) else (bd (d_X6_current M1) fun r4 M3 => (if (57 : Int32) < r4 then (some ((0 : Int32), M3)) else (some ((1 : Int32), M3))))))
def d_X6_takeDigit (M : Mem) : Ans :=
  (bd (d_X6_current M) fun r2 M1 => (bnd (r2 - (48 : Int32)) fun v3 => (bnd (mup M1 136 6 ((M1 136 6) + (1 : Int32))) fun M4 => (some (v3, M4)))))
def d_X6_skip (p1 : Int32) (M : Mem) : Ans :=
  (bd (d_X6_current M) fun r2 M1 => (if r2 = p1 then (bnd (mup M1 136 6 ((M1 136 6) + (1 : Int32))) fun M3 => (some ((1 : Int32), M3))) else (some ((0 : Int32), M1))))
def d_X6_takeStart_L13_body (kx1 : Int32 → Mem → Ans) (kb : Int32 → Int32 → Mem → Ans) (a1 : Int32) (a2 : Int32) (M : Mem) : Ans :=
  (if (4 : Int32) ≤ a2 then (kx1 a1 M) else (bd (d_X6_isDigit M) fun r4 M3 => (if r4 = 0 then (kx1 a1 M3) else (bd (d_X6_takeDigit M3) fun r6 M5 => (bnd ((a1 * (10 : Int32)) + r6) fun v7 => (bnd (a2 + (1)) fun v8 => (kb v7 v8 M5)))))))
def d_X6_takeStart_L13 (kx1 : Int32 → Mem → Ans) : Nat → Int32 → Int32 → Mem → Ans
  | 0 => fun _ _ _ => none
  | n + 1 => fun a1 a2 M => d_X6_takeStart_L13_body kx1 (d_X6_takeStart_L13 kx1 n) a1 a2 M
def d_X6_takeStart (M : Mem) : Ans :=
  (bd (d_X6_takeDigit M) fun r2 M1 => (if r2 = 0 then (some ((0 : Int32), M1)) else (d_X6_takeStart_L13 (fun v9 M10 => (some (v9, M10))) fuelN r2 (1 : Int32) M1)))
def d_X6_readEntry (p1 : Int32) (M : Mem) : Ans :=
  (if p1 < 0 then (some ((0 : Int32), M)) else (if (10 : Int32) ≤ p1 then (some ((0 : Int32), M)) else (bd (d_X6_isDigit M) fun r2 M1 => (if r2 = 0 then (some ((0 : Int32), M1)) else (bd (d_X6_takeDigit M1) fun r4 M3 => (chk p1 10 (bnd (mup M3 138 (p1).toNatClampNeg r4) fun M5 => (bd (d_X6_skip (58 : Int32) M5) fun r7 M6 => (if r7 = 0 then (some ((0 : Int32), M6)) else (bd (d_X6_isDigit M6) fun r9 M8 => (if r9 = 0 then (some ((0 : Int32), M8)) else (bd (d_X6_takeDigit M8) fun r11 M10 => (chk p1 10 (bnd (mup M10 139 (p1).toNatClampNeg r11) fun M12 => (bd (d_X6_skip (64 : Int32) M12) fun r14 M13 => (if r14 = 0 then (some ((0 : Int32), M13)) else (bd (d_X6_isDigit M13) fun r16 M15 => (if r16 = 0 then (some ((0 : Int32), M15)) else (bd (d_X6_takeStart M15) fun r18 M17 => (chk p1 10 (bnd (mup M17 140 (p1).toNatClampNeg r18) fun M19 => (some ((1 : Int32), M19)))))))))))))))))))))))
def d_X6_read_L12_body (kx1 : Mem → Ans) (kb : Int32 → Mem → Ans) (a1 : Int32) (M : Mem) : Ans :=
  (if (10 : Int32) ≤ a1 then (kx1 M) else (bd (d_X6_readEntry a1 M) fun r4 M3 => (if r4 = 0 then (some ((M3 136 6), M3)) else (bnd (mup M3 136 2 ((M3 136 2) + (1 : Int32))) fun M5 => (if (M5 136 6) = (M5 136 1) then (some ((-1 : Int32), M5)) else (bd (d_X6_skip (44 : Int32) M5) fun r7 M6 => (if r7 = 0 then (some ((M6 136 6), M6)) else (bnd (a1 + (1)) fun v8 => (kb v8 M6)))))))))
def d_X6_read_L12 (kx1 : Mem → Ans) : Nat → Int32 → Mem → Ans
  | 0 => fun _ _ => none
  | n + 1 => fun a1 M => d_X6_read_L12_body kx1 (d_X6_read_L12 kx1 n) a1 M
def d_X6_read (M : Mem) : Ans :=
  (bnd (mup M 136 2 (0 : Int32)) fun M1 => (bnd (mup M1 136 6 (0 : Int32)) fun M2 => (d_X6_read_L12 (fun M9 => (some ((M9 136 6), M9))) fuelN (0 : Int32) M2)))
def d_X7_has (q0 : Nat) (p1 : Int32) (M : Mem) : Ans :=
  (if p1 < 0 then (some ((0 : Int32), M)) else (if (M (sI q0 12) 0) ≤ p1 then (some ((0 : Int32), M)) else (some ((1 : Int32), M))))
def d_X7_append (q0 : Nat) (p1 : Int32) (p2 : Int32) (p3 : Int32) (M : Mem) : Ans :=
  (if (8 : Int32) ≤ (M (sI q0 12) 0) then (some ((M (sI q0 12) 0), M)) else (chk (M (sI q0 12) 0) 8 (bnd (mup M (sI q0 13) ((M (sI q0 12) 0)).toNatClampNeg p1) fun M1 => (chk (M1 (sI q0 12) 0) 8 (bnd (mup M1 (sI q0 14) ((M1 (sI q0 12) 0)).toNatClampNeg p2) fun M2 => (chk (M2 (sI q0 12) 0) 8 (bnd (mup M2 (sI q0 15) ((M2 (sI q0 12) 0)).toNatClampNeg p3) fun M3 => (bnd (mup M3 (sI q0 12) 0 ((M3 (sI q0 12) 0) + (1 : Int32))) fun M4 => (some ((M4 (sI q0 12) 0), M4))))))))))
def d_X7_takeOut_L13_body (q0 : Nat) (kx1 : Mem → Ans) (kb : Int32 → Mem → Ans) (a2 : Int32) (M : Mem) : Ans :=
  (if (M (sI q0 12) 0) ≤ a2 then (kx1 M) else (chk a2 8 (chk (a2 - (1 : Int32)) 8 (bnd (mup M (sI q0 13) ((a2 - (1 : Int32))).toNatClampNeg (M (sI q0 13) (a2).toNatClampNeg)) fun M4 => (chk a2 8 (chk (a2 - (1 : Int32)) 8 (bnd (mup M4 (sI q0 14) ((a2 - (1 : Int32))).toNatClampNeg (M4 (sI q0 14) (a2).toNatClampNeg)) fun M5 => (chk a2 8 (chk (a2 - (1 : Int32)) 8 (bnd (mup M5 (sI q0 15) ((a2 - (1 : Int32))).toNatClampNeg (M5 (sI q0 15) (a2).toNatClampNeg)) fun M6 => (bnd (a2 + (1)) fun v7 => (kb v7 M6))))))))))))
def d_X7_takeOut_L13 (q0 : Nat) (kx1 : Mem → Ans) : Nat → Int32 → Mem → Ans
  | 0 => fun _ _ => none
  | n + 1 => fun a2 M => d_X7_takeOut_L13_body q0 kx1 (d_X7_takeOut_L13 q0 kx1 n) a2 M
def d_X7_takeOut (q0 : Nat) (p1 : Int32) (M : Mem) : Ans :=
  (bd (d_X7_has q0 p1 M) fun r2 M1 => (if r2 = 0 then (some (0, M1)) else (bnd (p1 + (1 : Int32)) fun v3 => (d_X7_takeOut_L13 q0 (fun M8 => (bnd (mup M8 (sI q0 12) 0 ((M8 (sI q0 12) 0) - (1 : Int32))) fun M9 => (some (0, M9)))) fuelN v3 M1))))
def d_X7_dropUntil_B34 (q0 : Nat) (kx1 : Int32 → Mem → Ans) (kb : Int32 → Int32 → Mem → Ans) (a1 : Int32) (a2 : Int32) (a3 : Int32) (M : Mem) : Ans :=
  (bnd (a3 + (-1)) fun v2 => (kb a2 v2 M))
def d_X7_dropUntil_L9_body (q0 : Nat) (a1 : Int32) (kx1 : Int32 → Mem → Ans) (kb : Int32 → Int32 → Mem → Ans) (a2 : Int32) (a3 : Int32) (M : Mem) : Ans :=
  (if a3 < 0 then (kx1 a2 M) else (chk a3 8 (if a1 < ((M (sI q0 15) (a3).toNatClampNeg) + (20 : Int32)) then (d_X7_dropUntil_B34 q0 kx1 kb a1 a2 a3 M) else (bd (d_X7_takeOut q0 a3 M) fun r4 M3 => (bnd (a2 + (1)) fun v5 => (d_X7_dropUntil_B34 q0 kx1 kb a1 v5 a3 M3))))))
def d_X7_dropUntil_L9 (q0 : Nat) (a1 : Int32) (kx1 : Int32 → Mem → Ans) : Nat → Int32 → Int32 → Mem → Ans
  | 0 => fun _ _ _ => none
  | n + 1 => fun a2 a3 M => d_X7_dropUntil_L9_body q0 a1 kx1 (d_X7_dropUntil_L9 q0 a1 kx1 n) a2 a3 M
def d_X7_dropUntil (q0 : Nat) (p1 : Int32) (M : Mem) : Ans :=
  (bnd ((M (sI q0 12) 0) - (1 : Int32)) fun v1 => (d_X7_dropUntil_L9 q0 p1 (fun v6 M7 => (some (v6, M7))) fuelN (0 : Int32) v1 M))
def d_X8_within (p0 : Int32) (p1 : Int32) (p2 : Int32) (M : Mem) : Ans :=
  (if p0 < p1 then (some ((0 : Int32), M)) else (if p2 < p0 then (some ((0 : Int32), M)) else (some ((1 : Int32), M))))
def d_X8_addRecipe_B48 (a1 : Int32) (a2 : Int32) (a3 : Int32) (a4 : Int32) (s0 : Int32) (M : Mem) : Ans :=
  (if s0 = 0 then (some ((-2 : Int32), M)) else (if (M (sI 0 1) 0) < (8 : Int32) then (bd (d_X2_push 0 M) fun r4 M3 => (bd (d_X4_append 0 a1 a2 a3 a4 M3) fun r6 M5 => (some (r6, M5)))) else (some ((-3 : Int32), M))))
def d_X8_addRecipe_B47 (a1 : Int32) (a2 : Int32) (a3 : Int32) (a4 : Int32) (M : Mem) : Ans :=
  (d_X8_addRecipe_B48 a1 a2 a3 a4 (0 : Int32) M)
def d_X8_addRecipe (p1 : Int32) (p2 : Int32) (p3 : Int32) (p4 : Int32) (M : Mem) : Ans :=
  (bd (d_X8_within p1 (0 : Int32) (3000 : Int32) M) fun r2 M1 => (if r2 = 0 then (d_X8_addRecipe_B47 p1 p2 p3 p4 M1) else (bd (d_X8_within p2 (1 : Int32) (500 : Int32) M1) fun r8 M7 => (if r8 = 0 then (d_X8_addRecipe_B47 p1 p2 p3 p4 M7) else (bd (d_X8_within p3 (1 : Int32) (20 : Int32) M7) fun r10 M9 => (if r10 = 0 then (d_X8_addRecipe_B47 p1 p2 p3 p4 M9) else (bd (d_X8_within p4 (0 : Int32) (9 : Int32) M9) fun r12 M11 => (if r12 = 0 then (d_X8_addRecipe_B47 p1 p2 p3 p4 M11) else (d_X8_addRecipe_B48 p1 p2 p3 p4 (1 : Int32) M11)))))))))
def d_X8_forecastToEnd (M : Mem) : Ans :=
  (bd (d_X1_begin 0 0 M) fun r2 M1 => (bd (d_X1_passToEnd 0 M1) fun r4 M3 => (some (0, M3))))
def d_X8_countDoomed (M : Mem) : Ans :=
  (bd (d_X8_forecastToEnd M) fun r2 M1 => (bd (d_X1_countSpoiled 0 M1) fun r4 M3 => (some (r4, M3))))
def d_X8_setHeat (p1 : Int32) (M : Mem) : Ans :=
  (bd (d_X8_within p1 (0 : Int32) (300 : Int32) M) fun r2 M1 => (if r2 = 0 then (some ((-2 : Int32), M1)) else (if p1 = (M1 (sI 0 0) 3) then (some ((-5 : Int32), M1)) else (bd (d_X2_push 0 M1) fun r4 M3 => (bnd (mup M3 (sI 0 0) 3 p1) fun M5 => (bd (d_X8_countDoomed M5) fun r7 M6 => (some (r7, M6))))))))
def d_X8_setMost (p1 : Int32) (M : Mem) : Ans :=
  (bd (d_X8_within p1 (100 : Int32) (3000 : Int32) M) fun r2 M1 => (if r2 = 0 then (some ((-2 : Int32), M1)) else (if p1 = (M1 (sI 0 0) 2) then (some ((-5 : Int32), M1)) else (bd (d_X2_push 0 M1) fun r4 M3 => (bnd (mup M3 (sI 0 0) 2 p1) fun M5 => (bnd (mup M5 (sI 0 0) 1 (imin (M5 (sI 0 0) 1) p1)) fun M6 => (some ((M6 (sI 0 0) 1), M6))))))))
def d_X8_fall (p1 : Int32) (M : Mem) : Ans :=
  (bd (d_X8_within p1 (1 : Int32) (3000 : Int32) M) fun r2 M1 => (if r2 = 0 then (some ((-2 : Int32), M1)) else (if (M1 (sI 0 0) 1) = 0 then (some ((-5 : Int32), M1)) else (bd (d_X2_push 0 M1) fun r4 M3 => (bnd (mup M3 (sI 0 0) 1 (imax (0 : Int32) ((M3 (sI 0 0) 1) - p1))) fun M5 => (bd (d_X8_countDoomed M5) fun r7 M6 => (some (r7, M6))))))))
def d_X8_isRobot (p0 : Int32) (M : Mem) : Ans :=
  (bd (d_X8_within p0 (0 : Int32) (5 : Int32) M) fun r2 M1 => (nar .boolean r2 (some (r2, M1))))
def d_X8_errorOf (p0 : Int32) (M : Mem) : Ans :=
  (if p0 = (0) then (some ((0 : Int32), M)) else (if p0 = (1) then (some ((-6 : Int32), M)) else (some ((-7 : Int32), M))))
def d_X8_errorOfBooking (p1 : Int32) (p2 : Int32) (p3 : Int32) (M : Mem) : Ans :=
  (bd (d_X8_isRobot p1 M) fun r2 M1 => (if r2 = 0 then (some ((-1 : Int32), M1)) else (bd (d_X4_has 0 p2 M1) fun r4 M3 => (if r4 = 0 then (some ((-1 : Int32), M3)) else (bd (d_X5_canStart 0 p3 M3) fun r6 M5 => (if r6 = 0 then (some ((-2 : Int32), M5)) else (if (M5 (sI 0 6) 0) < (60 : Int32) then (bd (d_X3_reasonAgainst 0 (M5 (sI 0 6) 0) p1 p2 p3 M5) fun r8 M7 => (bd (d_X8_errorOf r8 M7) fun r10 M9 => (some (r10, M9)))) else (some ((-3 : Int32), M5)))))))))
def d_X8_book (p1 : Int32) (p2 : Int32) (p3 : Int32) (M : Mem) : Ans :=
  (bd (d_X8_errorOfBooking p1 p2 p3 M) fun r2 M1 => (if r2 = 0 then (bd (d_X2_push 0 M1) fun r4 M3 => (bd (d_X0_append 0 p1 p2 p3 M3) fun r6 M5 => (some (r6, M5)))) else (some (r2, M1))))
def d_X8_tryWishes_B157 (kx1 : Mem → Ans) (kb : Int32 → Int32 → Mem → Ans) (a2 : Int32) (a3 : Int32) (a4 : Int32) (M : Mem) : Ans :=
  (bnd (a4 + (1)) fun v10 => (kb a3 v10 M))
def d_X8_tryWishes_B120 (kx1 : Mem → Ans) (kb : Int32 → Int32 → Mem → Ans) (a2 : Int32) (a3 : Int32) (a4 : Int32) (a5 : Int32) (a6 : Int32) (s0 : Int32) (M : Mem) : Ans :=
  (if s0 = (-5 : Int32) then (bnd (a3 + (1)) fun v11 => (d_X8_tryWishes_B157 kx1 kb a2 v11 a4 M)) else (bd (d_X7_takeOut 0 a3 M) fun r7 M6 => (bd (d_X0_append 0 a5 a6 s0 M6) fun r9 M8 => (d_X8_tryWishes_B157 kx1 kb a2 a3 a4 M8))))
def d_X8_tryWishes_B76 (kx1 : Mem → Ans) (kb : Int32 → Int32 → Mem → Ans) (a2 : Int32) (a3 : Int32) (a4 : Int32) (a5 : Int32) (a6 : Int32) (a7 : Int32) (s0 : Int32) (M : Mem) : Ans :=
  (if s0 = 0 then (d_X8_tryWishes_B120 kx1 kb a2 a3 a4 a5 a6 (-5 : Int32) M) else (bd (d_X3_firstFit 0 (M (sI 0 6) 0) a5 a6 a7 (a7 + (20 : Int32)) M) fun r13 M12 => (d_X8_tryWishes_B120 kx1 kb a2 a3 a4 a5 a6 r13 M12)))
def d_X8_tryWishes_L18_body (a2 : Int32) (kx1 : Mem → Ans) (kb : Int32 → Int32 → Mem → Ans) (a3 : Int32) (a4 : Int32) (M : Mem) : Ans :=
  (if a2 ≤ a4 then (kx1 M) else (bd (d_X7_has 0 a3 M) fun r2 M1 => (if r2 = 0 then (kx1 M1) else (chk a3 8 (bnd (M1 (sI 0 13) (a3).toNatClampNeg) fun v3 => (chk a3 8 (bnd (M1 (sI 0 14) (a3).toNatClampNeg) fun v4 => (chk a3 8 (bnd (M1 (sI 0 15) (a3).toNatClampNeg) fun v5 => (if (60 : Int32) ≤ (M1 (sI 0 6) 0) then (d_X8_tryWishes_B76 kx1 kb a2 a3 a4 v3 v4 v5 (0 : Int32) M1) else (d_X8_tryWishes_B76 kx1 kb a2 a3 a4 v3 v4 v5 (1 : Int32) M1)))))))))))
def d_X8_tryWishes_L18 (a2 : Int32) (kx1 : Mem → Ans) : Nat → Int32 → Int32 → Mem → Ans
  | 0 => fun _ _ _ => none
  | n + 1 => fun a3 a4 M => d_X8_tryWishes_L18_body a2 kx1 (d_X8_tryWishes_L18 a2 kx1 n) a3 a4 M
def d_X8_tryWishes_B163 (a2 : Int32) (M : Mem) : Ans :=
  (bnd (a2 - (M (sI 0 12) 0)) fun v15 => (bnd (mup M (sI 0 0) 4 ((M (sI 0 0) 4) + v15)) fun M16 => (some (v15, M16))))
def d_X8_tryWishes (M : Mem) : Ans :=
  (d_X8_tryWishes_L18 (M (sI 0 12) 0) (fun M14 => (d_X8_tryWishes_B163 (M (sI 0 12) 0) M14)) fuelN (0 : Int32) (0 : Int32) M)
def d_X8_cancel (p1 : Int32) (M : Mem) : Ans :=
  (bd (d_X0_has 0 p1 M) fun r2 M1 => (if r2 = 0 then (some ((-1 : Int32), M1)) else (bd (d_X0_isOpen 0 p1 M1) fun r4 M3 => (if r4 = 0 then (some ((-4 : Int32), M3)) else (bd (d_X2_push 0 M3) fun r6 M5 => (chk p1 60 (bnd (mup M5 (sI 0 10) (p1).toNatClampNeg (4 : Int32)) fun M7 => (bd (d_X8_tryWishes M7) fun r9 M8 => (some (r9, M8))))))))))
def d_X8_move (p1 : Int32) (p2 : Int32) (M : Mem) : Ans :=
  (bd (d_X0_has 0 p1 M) fun r2 M1 => (if r2 = 0 then (some ((-1 : Int32), M1)) else (chk p1 60 (if (M1 (sI 0 10) (p1).toNatClampNeg) = 0 then (bd (d_X5_canStart 0 p2 M1) fun r4 M3 => (if r4 = 0 then (some ((-2 : Int32), M3)) else (chk p1 60 (bnd (M3 (sI 0 7) (p1).toNatClampNeg) fun v5 => (chk p1 60 (bnd (M3 (sI 0 8) (p1).toNatClampNeg) fun v6 => (bd (d_X3_reasonAgainst 0 p1 v5 v6 p2 M3) fun r8 M7 => (bd (d_X8_errorOf r8 M7) fun r10 M9 => (if r10 = 0 then (chk p1 60 (bnd (M9 (sI 0 9) (p1).toNatClampNeg) fun v11 => (if v11 = p2 then (some ((-5 : Int32), M9)) else (bd (d_X2_push 0 M9) fun r13 M12 => (chk p1 60 (bnd (mup M12 (sI 0 9) (p1).toNatClampNeg p2) fun M14 => (some (v11, M14)))))))) else (some (r10, M9))))))))))) else (some ((-4 : Int32), M1))))))
def d_X8_wasRepaired (p1 : Int32) (M : Mem) : Ans :=
  (if p1 < 0 then (some ((1 : Int32), M)) else (if (60 : Int32) ≤ p1 then (some ((1 : Int32), M)) else (chk p1 60 (if (M 142 (p1).toNatClampNeg) = 0 then (some ((0 : Int32), M)) else (some ((1 : Int32), M))))))
def d_X8_firstToRepair_B64 (kx1 : Mem → Ans) (kb : Int32 → Mem → Ans) (a1 : Int32) (M : Mem) : Ans :=
  (bnd (a1 + (1)) fun v4 => (kb v4 M))
def d_X8_firstToRepair_L6_body (kx1 : Mem → Ans) (kb : Int32 → Mem → Ans) (a1 : Int32) (M : Mem) : Ans :=
  (if (M (cI 0 0) 6) ≤ a1 then (kx1 M) else (chk a1 61 (bnd (M (cI 0 1) (a1).toNatClampNeg) fun v3 => (chk a1 61 (if (M (cI 0 2) (a1).toNatClampNeg) = (3 : Int32) then (bd (d_X0_stateOf 0 v3 M) fun r6 M5 => (if r6 = 0 then (bd (d_X8_wasRepaired v3 M5) fun r8 M7 => (if r8 = 0 then (some (v3, M7)) else (d_X8_firstToRepair_B64 kx1 kb a1 M7))) else (d_X8_firstToRepair_B64 kx1 kb a1 M5))) else (d_X8_firstToRepair_B64 kx1 kb a1 M))))))
def d_X8_firstToRepair_L6 (kx1 : Mem → Ans) : Nat → Int32 → Mem → Ans
  | 0 => fun _ _ => none
  | n + 1 => fun a1 M => d_X8_firstToRepair_L6_body kx1 (d_X8_firstToRepair_L6 kx1 n) a1 M
def d_X8_firstToRepair (M : Mem) : Ans :=
  (bd (d_X8_forecastToEnd M) fun r2 M1 => (d_X8_firstToRepair_L6 (fun M9 => (some ((-1 : Int32), M9))) fuelN (0 : Int32) M1))
def d_X8_moveLaterOrCancel (p1 : Int32) (M : Mem) : Ans :=
  (bd (d_X0_has 0 p1 M) fun r2 M1 => (if r2 = 0 then (some ((0 : Int32), M1)) else (chk p1 60 (bnd (mup M1 142 (p1).toNatClampNeg (vp_nar .boolean (1 : Int32))) fun M3 => (chk p1 60 (chk p1 60 (chk p1 60 (chk p1 60 (bd (d_X3_firstFit 0 p1 (M3 (sI 0 7) (p1).toNatClampNeg) (M3 (sI 0 8) (p1).toNatClampNeg) ((M3 (sI 0 9) (p1).toNatClampNeg) + (1 : Int32)) ((M3 (sI 0 9) (p1).toNatClampNeg) + (60 : Int32)) M3) fun r5 M4 => (if r5 = (-5 : Int32) then (chk p1 60 (bnd (mup M4 (sI 0 10) (p1).toNatClampNeg (4 : Int32)) fun M7 => (some ((0 : Int32), M7)))) else (chk p1 60 (bnd (mup M4 (sI 0 9) (p1).toNatClampNeg r5) fun M6 => (some ((1 : Int32), M6))))))))))))))
def d_X8_repair_L2_body (kx1 : Mem → Ans) (kb : Int32 → Mem → Ans) (a1 : Int32) (M : Mem) : Ans :=
  (if (60 : Int32) ≤ a1 then (kx1 M) else (chk a1 60 (bnd (mup M 142 (a1).toNatClampNeg (vp_nar .boolean (0 : Int32))) fun M1 => (bnd (a1 + (1)) fun v2 => (kb v2 M1)))))
def d_X8_repair_L2 (kx1 : Mem → Ans) : Nat → Int32 → Mem → Ans
  | 0 => fun _ _ => none
  | n + 1 => fun a1 M => d_X8_repair_L2_body kx1 (d_X8_repair_L2 kx1 n) a1 M
def d_X8_repair_B71 (kx1 : Int32 → Mem → Ans) (kb : Int32 → Int32 → Int32 → Mem → Ans) (a2 : Int32) (a3 : Int32) (M : Mem) : Ans :=
  (bd (d_X8_firstToRepair M) fun r11 M10 => (bnd (a3 + (1)) fun v12 => (kb r11 a2 v12 M10)))
def d_X8_repair_L49_body (kx1 : Int32 → Mem → Ans) (kb : Int32 → Int32 → Int32 → Mem → Ans) (a1 : Int32) (a2 : Int32) (a3 : Int32) (M : Mem) : Ans :=
  (if (60 : Int32) ≤ a3 then (kx1 a2 M) else (if a1 = (-1 : Int32) then (kx1 a2 M) else (bd (d_X8_moveLaterOrCancel a1 M) fun r9 M8 => (if r9 = 0 then (d_X8_repair_B71 kx1 kb a2 a3 M8) else (bnd (a2 + (1)) fun v13 => (d_X8_repair_B71 kx1 kb v13 a3 M8))))))
def d_X8_repair_L49 (kx1 : Int32 → Mem → Ans) : Nat → Int32 → Int32 → Int32 → Mem → Ans
  | 0 => fun _ _ _ _ => none
  | n + 1 => fun a1 a2 a3 M => d_X8_repair_L49_body kx1 (d_X8_repair_L49 kx1 n) a1 a2 a3 M
def d_X8_repair (M : Mem) : Ans :=
  (d_X8_repair_L2 (fun M3 => (bd (d_X8_firstToRepair M3) fun r5 M4 => (if r5 = (-1 : Int32) then (some ((-5 : Int32), M4)) else (bd (d_X2_push 0 M4) fun r7 M6 => (d_X8_repair_L49 (fun v14 M15 => (some (v14, M15))) fuelN r5 (0 : Int32) (0 : Int32) M6))))) fuelN (0 : Int32) M)
def d_X8_wish_B128 (a1 : Int32) (a2 : Int32) (a3 : Int32) (M : Mem) : Ans :=
  (if (M (sI 0 12) 0) < (8 : Int32) then (bd (d_X2_push 0 M) fun r10 M9 => (bd (d_X7_append 0 a1 a2 a3 M9) fun r12 M11 => (some (((1000 : Int32) + r12), M11)))) else (some ((-3 : Int32), M)))
def d_X8_wish (p1 : Int32) (p2 : Int32) (p3 : Int32) (M : Mem) : Ans :=
  (bd (d_X8_isRobot p1 M) fun r2 M1 => (if r2 = 0 then (some ((-1 : Int32), M1)) else (bd (d_X4_has 0 p2 M1) fun r4 M3 => (if r4 = 0 then (some ((-1 : Int32), M3)) else (bd (d_X5_canStart 0 p3 M3) fun r6 M5 => (if r6 = 0 then (some ((-2 : Int32), M5)) else (bd (d_X3_firstFit 0 (M5 (sI 0 6) 0) p1 p2 p3 (p3 + (20 : Int32)) M5) fun r8 M7 => (if r8 = (-5 : Int32) then (d_X8_wish_B128 p1 p2 p3 M7) else (if (60 : Int32) ≤ (M7 (sI 0 6) 0) then (d_X8_wish_B128 p1 p2 p3 M7) else (bd (d_X2_push 0 M7) fun r14 M13 => (bnd (mup M13 (sI 0 0) 4 ((M13 (sI 0 0) 4) + (1 : Int32))) fun M15 => (bd (d_X0_append 0 p1 p2 r8 M15) fun r17 M16 => (some (r17, M16))))))))))))))
def d_X8_unwish (p1 : Int32) (M : Mem) : Ans :=
  (bd (d_X7_has 0 p1 M) fun r2 M1 => (if r2 = 0 then (some ((-1 : Int32), M1)) else (bd (d_X2_push 0 M1) fun r4 M3 => (chk p1 8 (bnd (M3 (sI 0 14) (p1).toNatClampNeg) fun v5 => (bd (d_X7_takeOut 0 p1 M3) fun r7 M6 => (some (v5, M6))))))))
def d_X8_takeOver_B86 (q1 : Nat) (kx1 : Int32 → Mem → Ans) (kb : Int32 → Int32 → Mem → Ans) (a2 : Int32) (a3 : Int32) (M : Mem) : Ans :=
  (bnd (a3 + (1)) fun v4 => (kb a2 v4 M))
def d_X8_takeOver_B73 (q1 : Nat) (kx1 : Int32 → Mem → Ans) (kb : Int32 → Int32 → Mem → Ans) (a2 : Int32) (a3 : Int32) (M : Mem) : Ans :=
  (chk a3 61 (if (M (cI q1 2) (a3).toNatClampNeg) = (2 : Int32) then (bnd (a2 + (1)) fun v5 => (d_X8_takeOver_B86 q1 kx1 kb v5 a3 M)) else (d_X8_takeOver_B86 q1 kx1 kb a2 a3 M)))
def d_X8_takeOver_L4_body (q1 : Nat) (kx1 : Int32 → Mem → Ans) (kb : Int32 → Int32 → Mem → Ans) (a2 : Int32) (a3 : Int32) (M : Mem) : Ans :=
  (if (M (cI q1 0) 6) ≤ a3 then (kx1 a2 M) else (chk a3 61 (bnd (M (cI q1 1) (a3).toNatClampNeg) fun v1 => (bd (d_X0_has 0 v1 M) fun r3 M2 => (if r3 = 0 then (d_X8_takeOver_B73 q1 kx1 kb a2 a3 M2) else (chk a3 61 (chk v1 60 (bnd (mup M2 (sI 0 10) (v1).toNatClampNeg (M2 (cI q1 2) (a3).toNatClampNeg)) fun M6 => (chk a3 61 (chk v1 60 (bnd (mup M6 (sI 0 11) (v1).toNatClampNeg (M6 (cI q1 3) (a3).toNatClampNeg)) fun M7 => (d_X8_takeOver_B73 q1 kx1 kb a2 a3 M7))))))))))))
def d_X8_takeOver_L4 (q1 : Nat) (kx1 : Int32 → Mem → Ans) : Nat → Int32 → Int32 → Mem → Ans
  | 0 => fun _ _ _ => none
  | n + 1 => fun a2 a3 M => d_X8_takeOver_L4_body q1 kx1 (d_X8_takeOver_L4 q1 kx1 n) a2 a3 M
def d_X8_takeOver (q1 : Nat) (M : Mem) : Ans :=
  (d_X8_takeOver_L4 q1 (fun v8 M9 => (bnd (mup M9 (sI 0 0) 0 (M9 (cI q1 0) 0)) fun M10 => (bnd (mup M10 (sI 0 0) 1 (M10 (cI q1 0) 1)) fun M11 => (bnd (mup M11 (sI 0 0) 6 ((M11 (sI 0 0) 6) + (M11 (cI q1 0) 5))) fun M12 => (bd (d_X7_dropUntil 0 (M12 (sI 0 0) 0) M12) fun r14 M13 => (bnd (mup M13 (sI 0 0) 5 ((M12 (sI 0 0) 5) + r14)) fun M15 => (some (v8, M15)))))))) fuelN (0 : Int32) (0 : Int32) M)
def d_X8_pass (p1 : Int32) (M : Mem) : Ans :=
  (bd (d_X8_within p1 (1 : Int32) (200 : Int32) M) fun r2 M1 => (if r2 = 0 then (some ((-2 : Int32), M1)) else (if ((M1 (sI 0 0) 0) + p1) ≤ (9000 : Int32) then (bd (d_X2_push 0 M1) fun r4 M3 => (bd (d_X1_begin 0 0 M3) fun r6 M5 => (bd (d_X1_passTicks 0 p1 M5) fun r8 M7 => (bd (d_X8_takeOver 0 M7) fun r10 M9 => (some (r10, M9)))))) else (some ((-4 : Int32), M1)))))
def d_X8_type (p1 : Int32) (M : Mem) : Ans :=
  (if (M 136 1) < (60 : Int32) then (bd (d_X6_append p1 M) fun r2 M1 => (some (r2, M1))) else (some ((-3 : Int32), M)))
def d_X8_clearText (M : Mem) : Ans :=
  (bnd (mup M 136 1 (0 : Int32)) fun M1 => (some ((M 136 1), M1)))
def d_X8_bookAll_L31_body (kx1 : Mem → Ans) (kb : Int32 → Mem → Ans) (a2 : Int32) (M : Mem) : Ans :=
  (if (M 136 2) ≤ a2 then (kx1 M) else (chk a2 10 (chk a2 10 (chk a2 10 (bd (d_X8_errorOfBooking (M 138 (a2).toNatClampNeg) (M 139 (a2).toNatClampNeg) (M 140 (a2).toNatClampNeg) M) fun r6 M5 => (if r6 = 0 then (chk a2 10 (chk a2 10 (chk a2 10 (bd (d_X0_append 0 (M5 138 (a2).toNatClampNeg) (M5 139 (a2).toNatClampNeg) (M5 140 (a2).toNatClampNeg) M5) fun r8 M7 => (bnd (a2 + (1)) fun v9 => (kb v9 M7)))))) else (bd (d_X5_copyFrom 0 1 M5) fun r11 M10 => (some (r6, M10)))))))))
def d_X8_bookAll_L31 (kx1 : Mem → Ans) : Nat → Int32 → Mem → Ans
  | 0 => fun _ _ => none
  | n + 1 => fun a2 M => d_X8_bookAll_L31_body kx1 (d_X8_bookAll_L31 kx1 n) a2 M
def d_X8_bookAll (M : Mem) : Ans :=
  (bd (d_X6_read M) fun r2 M1 => (if r2 = (-1 : Int32) then (bd (d_X5_copyFrom 1 0 M1) fun r4 M3 => (d_X8_bookAll_L31 (fun M12 => (bd (d_X2_push 1 M12) fun r14 M13 => (some ((M13 136 2), M13)))) fuelN (0 : Int32) M3)) else (some (((-100 : Int32) - r2), M1))))
def d_X8_undo (M : Mem) : Ans :=
  (if (M 134 1) = 0 then (some ((-5 : Int32), M)) else (bd (d_X2_popInto 0 M) fun r2 M1 => (some ((M1 134 1), M1))))
def d_X8_keep (M : Mem) : Ans :=
  (bd (d_X5_copyFrom 2 0 M) fun r2 M1 => (bnd (mup M1 141 3 (1 : Int32)) fun M3 => (some ((M3 (sI 0 0) 0), M3))))
def d_X8_restore (M : Mem) : Ans :=
  (if (M 141 3) = 0 then (some ((-5 : Int32), M)) else (bd (d_X2_push 0 M) fun r2 M1 => (bd (d_X5_copyFrom 0 2 M1) fun r4 M3 => (some ((M3 (sI 0 0) 0), M3)))))
def d_X8_recipe (p1 : Int32) (p2 : Int32) (M : Mem) : Ans :=
  (bd (d_X4_has 0 p1 M) fun r2 M1 => (if r2 = 0 then (some ((-1 : Int32), M1)) else (if p2 = (0) then (chk p1 8 (some ((M1 (sI 0 2) (p1).toNatClampNeg), M1))) else (if p2 = (1) then (chk p1 8 (some ((M1 (sI 0 3) (p1).toNatClampNeg), M1))) else (if p2 = (2) then (chk p1 8 (some ((M1 (sI 0 4) (p1).toNatClampNeg), M1))) else (if p2 = (3) then (chk p1 8 (some ((M1 (sI 0 5) (p1).toNatClampNeg), M1))) else (if p2 = (4) then (bd (d_X0_doneOfRecipe 0 p1 M1) fun r8 M7 => (some (r8, M7))) else (some ((-2 : Int32), M1)))))))))
def d_X8_robot (p1 : Int32) (p2 : Int32) (M : Mem) : Ans :=
  (bd (d_X8_isRobot p1 M) fun r2 M1 => (if r2 = 0 then (some ((-1 : Int32), M1)) else (if p2 = (0) then (bd (d_X0_ofRobot 0 p1 (0 : Int32) M1) fun r4 M3 => (bd (d_X0_ofRobot 0 p1 (1 : Int32) M3) fun r6 M5 => (some ((r4 + r6), M5)))) else (if p2 = (1) then (bd (d_X0_ofRobot 0 p1 (2 : Int32) M1) fun r9 M8 => (some (r9, M8))) else (if p2 = (2) then (bd (d_X5_isBusyIn 0 p1 (M1 (sI 0 0) 0) M1) fun r12 M11 => (if r12 = 0 then (some ((0 : Int32), M11)) else (some ((1 : Int32), M11)))) else (if p2 = (3) then (bd (d_X5_firstFreeTick 0 p1 M1) fun r15 M14 => (some (r15, M14))) else (some ((-2 : Int32), M1))))))))
def d_X8_stateInTheEnd (p1 : Int32) (M : Mem) : Ans :=
  (bd (d_X8_forecastToEnd M) fun r2 M1 => (bd (d_X1_rowOf 0 p1 M1) fun r4 M3 => (if r4 = (-1 : Int32) then (bd (d_X0_stateOf 0 p1 M3) fun r6 M5 => (some (r6, M5))) else (chk r4 61 (some ((M3 (cI 0 2) (r4).toNatClampNeg), M3))))))
def d_X8_tickOfSpoiling (p1 : Int32) (M : Mem) : Ans :=
  (bd (d_X8_forecastToEnd M) fun r2 M1 => (bd (d_X1_rowOf 0 p1 M1) fun r4 M3 => (if r4 = (-1 : Int32) then (some ((-5 : Int32), M3)) else (chk r4 61 (some ((M3 (cI 0 4) (r4).toNatClampNeg), M3))))))
def d_X8_leastSpare (p1 : Int32) (M : Mem) : Ans :=
  (bd (d_X8_forecastToEnd M) fun r2 M1 => (bd (d_X1_rowOf 0 p1 M1) fun r4 M3 => (if r4 = (-1 : Int32) then (some ((-5 : Int32), M3)) else (chk r4 61 (some (((10000 : Int32) + (M3 (cI 0 5) (r4).toNatClampNeg)), M3))))))
def d_X8_booking (p1 : Int32) (p2 : Int32) (M : Mem) : Ans :=
  (bd (d_X0_has 0 p1 M) fun r2 M1 => (if r2 = 0 then (some ((-1 : Int32), M1)) else (if p2 = (0) then (chk p1 60 (some ((M1 (sI 0 7) (p1).toNatClampNeg), M1))) else (if p2 = (1) then (chk p1 60 (some ((M1 (sI 0 8) (p1).toNatClampNeg), M1))) else (if p2 = (2) then (chk p1 60 (some ((M1 (sI 0 9) (p1).toNatClampNeg), M1))) else (if p2 = (3) then (chk p1 60 (some ((M1 (sI 0 10) (p1).toNatClampNeg), M1))) else (if p2 = (4) then (chk p1 60 (some ((M1 (sI 0 11) (p1).toNatClampNeg), M1))) else (if p2 = (5) then (bd (d_X8_stateInTheEnd p1 M1) fun r9 M8 => (some (r9, M8))) else (if p2 = (6) then (bd (d_X8_tickOfSpoiling p1 M1) fun r12 M11 => (some (r12, M11))) else (if p2 = (7) then (bd (d_X8_leastSpare p1 M1) fun r15 M14 => (some (r15, M14))) else (some ((-2 : Int32), M1))))))))))))
def d_X8_wishTold (p1 : Int32) (p2 : Int32) (M : Mem) : Ans :=
  (bd (d_X7_has 0 p1 M) fun r2 M1 => (if r2 = 0 then (some ((-1 : Int32), M1)) else (if p2 = (0) then (chk p1 8 (some ((M1 (sI 0 13) (p1).toNatClampNeg), M1))) else (if p2 = (1) then (chk p1 8 (some ((M1 (sI 0 14) (p1).toNatClampNeg), M1))) else (if p2 = (2) then (chk p1 8 (some ((M1 (sI 0 15) (p1).toNatClampNeg), M1))) else (if p2 = (3) then (chk p1 8 (chk p1 8 (chk p1 8 (chk p1 8 (bd (d_X3_firstFit 0 (M1 (sI 0 6) 0) (M1 (sI 0 13) (p1).toNatClampNeg) (M1 (sI 0 14) (p1).toNatClampNeg) (M1 (sI 0 15) (p1).toNatClampNeg) ((M1 (sI 0 15) (p1).toNatClampNeg) + (20 : Int32)) M1) fun r7 M6 => (some (r7, M6))))))) else (some ((-2 : Int32), M1))))))))
def d_X8_pressureIn (p1 : Int32) (M : Mem) : Ans :=
  (bd (d_X8_within p1 (0 : Int32) (200 : Int32) M) fun r2 M1 => (if r2 = 0 then (some ((-2 : Int32), M1)) else (bd (d_X1_begin 0 0 M1) fun r4 M3 => (bd (d_X1_passTicks 0 p1 M3) fun r6 M5 => (some ((M5 (cI 0 0) 1), M5))))))
def d_X8_lowestIn (p1 : Int32) (M : Mem) : Ans :=
  (bd (d_X8_within p1 (1 : Int32) (200 : Int32) M) fun r2 M1 => (if r2 = 0 then (some ((-2 : Int32), M1)) else (bd (d_X1_begin 0 0 M1) fun r4 M3 => (bd (d_X1_passTicks 0 p1 M3) fun r6 M5 => (some ((M5 (cI 0 0) 4), M5))))))
def d_X8_why (p1 : Int32) (p2 : Int32) (p3 : Int32) (p4 : Int32) (M : Mem) : Ans :=
  (bd (d_X8_isRobot p1 M) fun r2 M1 => (if r2 = 0 then (some ((-1 : Int32), M1)) else (bd (d_X4_has 0 p2 M1) fun r4 M3 => (if r4 = 0 then (some ((-1 : Int32), M3)) else (bd (d_X5_canStart 0 p3 M3) fun r6 M5 => (if r6 = 0 then (some ((-2 : Int32), M5)) else (bd (d_X8_within p4 (0 : Int32) (2 : Int32) M5) fun r8 M7 => (if r8 = 0 then (some ((-2 : Int32), M7)) else (bd (d_X3_reasonAgainst 0 (M7 (sI 0 6) 0) p1 p2 p3 M7) fun r10 M9 => (if p4 = (0) then (some (r10, M9)) else (if p4 = (1) then (some ((M9 132 2), M9)) else (some ((M9 132 3), M9)))))))))))))
def d_X8_earliest (p1 : Int32) (p2 : Int32) (p3 : Int32) (M : Mem) : Ans :=
  (bd (d_X8_isRobot p1 M) fun r2 M1 => (if r2 = 0 then (some ((-1 : Int32), M1)) else (bd (d_X4_has 0 p2 M1) fun r4 M3 => (if r4 = 0 then (some ((-1 : Int32), M3)) else (bd (d_X5_canStart 0 p3 M3) fun r6 M5 => (if r6 = 0 then (some ((-2 : Int32), M5)) else (bd (d_X3_firstFit 0 (M5 (sI 0 6) 0) p1 p2 p3 (p3 + (60 : Int32)) M5) fun r8 M7 => (some (r8, M7)))))))))
def d_X8_count (p1 : Int32) (M : Mem) : Ans :=
  (bd (d_X8_within p1 (6 : Int32) (10 : Int32) M) fun r2 M1 => (if r2 = 0 then (if p1 = (0) then (some ((M1 (sI 0 0) 0), M1)) else (if p1 = (1) then (some ((M1 (sI 0 0) 1), M1)) else (if p1 = (2) then (some ((M1 (sI 0 0) 2), M1)) else (if p1 = (3) then (some ((M1 (sI 0 0) 3), M1)) else (if p1 = (4) then (some ((M1 (sI 0 1) 0), M1)) else (if p1 = (5) then (some ((M1 (sI 0 6) 0), M1)) else (if p1 = (6) then (some ((-2 : Int32), M1)) else (if p1 = (7) then (some ((-2 : Int32), M1)) else (if p1 = (8) then (some ((-2 : Int32), M1)) else (if p1 = (9) then (some ((-2 : Int32), M1)) else (if p1 = (10) then (some ((-2 : Int32), M1)) else (if p1 = (11) then (bd (d_X8_countDoomed M1) fun r15 M14 => (some (r15, M14))) else (if p1 = (12) then (some ((M1 (sI 0 12) 0), M1)) else (if p1 = (13) then (some ((M1 (sI 0 0) 4), M1)) else (if p1 = (14) then (some ((M1 (sI 0 0) 5), M1)) else (if p1 = (15) then (some ((M1 (sI 0 0) 6), M1)) else (if p1 = (16) then (some ((M1 134 1), M1)) else (if p1 = (17) then (some ((M1 136 1), M1)) else (some ((-2 : Int32), M1)))))))))))))))))))) else (bd (d_X0_inState 0 (p1 - (6 : Int32)) M1) fun r24 M23 => (some (r24, M23)))))
def d_X9_in (p0 : Int32) (p1 : Int32) (p2 : Int32) (M : Mem) : Ans :=
  (if p0 < p1 then (some ((0 : Int32), M)) else (if p2 < p0 then (some ((0 : Int32), M)) else (some ((1 : Int32), M))))
def d_X9_of (p1 : Int32) (p2 : Int32) (M : Mem) : Ans :=
  (chk (((42 : Int32) + ((5 : Int32) * p1)) + p2) 366 (some ((M 144 ((((42 : Int32) + ((5 : Int32) * p1)) + p2)).toNatClampNeg), M)))
def d_X9_puts (p1 : Int32) (p2 : Int32) (p3 : Int32) (M : Mem) : Ans :=
  (chk (((42 : Int32) + ((5 : Int32) * p1)) + p2) 366 (bnd (mup M 144 ((((42 : Int32) + ((5 : Int32) * p1)) + p2)).toNatClampNeg p3) fun M1 => (some (0, M1))))
def d_X9_ofRecipe (p1 : Int32) (p2 : Int32) (M : Mem) : Ans :=
  (chk (((10 : Int32) + ((4 : Int32) * p1)) + p2) 366 (some ((M 144 ((((10 : Int32) + ((4 : Int32) * p1)) + p2)).toNatClampNeg), M)))
def d_X9_ofWish (p1 : Int32) (p2 : Int32) (M : Mem) : Ans :=
  (chk (((342 : Int32) + ((3 : Int32) * p1)) + p2) 366 (some ((M 144 ((((342 : Int32) + ((3 : Int32) * p1)) + p2)).toNatClampNeg), M)))
def d_X9_noRecipe (p1 : Int32) (M : Mem) : Ans :=
  (chk (4 : Int32) 366 (bd (d_X9_in p1 (0 : Int32) ((M 144 ((4 : Int32)).toNatClampNeg) - (1 : Int32)) M) fun r2 M1 => (if r2 = 0 then (some ((1 : Int32), M1)) else (some ((0 : Int32), M1)))))
def d_X9_noRobot (p0 : Int32) (M : Mem) : Ans :=
  (bd (d_X9_in p0 (0 : Int32) (5 : Int32) M) fun r2 M1 => (if r2 = 0 then (some ((1 : Int32), M1)) else (some ((0 : Int32), M1))))
def d_X9_noBooking (p1 : Int32) (M : Mem) : Ans :=
  (chk (5 : Int32) 366 (bd (d_X9_in p1 (0 : Int32) ((M 144 ((5 : Int32)).toNatClampNeg) - (1 : Int32)) M) fun r2 M1 => (if r2 = 0 then (some ((1 : Int32), M1)) else (some ((0 : Int32), M1)))))
def d_X9_isStart (p1 : Int32) (M : Mem) : Ans :=
  (chk (0 : Int32) 366 (chk (0 : Int32) 366 (bd (d_X9_in p1 ((M 144 ((0 : Int32)).toNatClampNeg) + (1 : Int32)) ((M 144 ((0 : Int32)).toNatClampNeg) + (60 : Int32)) M) fun r2 M1 => (nar .boolean r2 (some (r2, M1))))))
def d_X9_isOpen (p1 : Int32) (M : Mem) : Ans :=
  (bd (d_X9_of p1 (3 : Int32) M) fun r2 M1 => (if (1 : Int32) < r2 then (some ((0 : Int32), M1)) else (some ((1 : Int32), M1))))
def d_X9_record_L51_body (kx1 : Mem → Ans) (kb : Int32 → Mem → Ans) (a1 : Int32) (M : Mem) : Ans :=
  (if (366 : Int32) ≤ a1 then (kx1 M) else (chk a1 366 (chk (((366 : Int32) * (M 143 2)) + a1) 1464 (bnd (mup M 145 ((((366 : Int32) * (M 143 2)) + a1)).toNatClampNeg (M 144 (a1).toNatClampNeg)) fun M1 => (bnd (a1 + (1)) fun v2 => (kb v2 M1))))))
def d_X9_record_L51 (kx1 : Mem → Ans) : Nat → Int32 → Mem → Ans
  | 0 => fun _ _ => none
  | n + 1 => fun a1 M => d_X9_record_L51_body kx1 (d_X9_record_L51 kx1 n) a1 M
def d_X9_record_B49 (M : Mem) : Ans :=
  (d_X9_record_L51 (fun M3 => (bnd (mup M3 143 2 ((M3 143 2) + (1 : Int32))) fun M4 => (some (0, M4)))) fuelN (0 : Int32) M)
def d_X9_record_L10_body (kx1 : Mem → Ans) (kb : Int32 → Mem → Ans) (a1 : Int32) (M : Mem) : Ans :=
  (if (1098 : Int32) ≤ a1 then (kx1 M) else (chk (a1 + (366 : Int32)) 1464 (chk a1 1464 (bnd (mup M 145 (a1).toNatClampNeg (M 145 ((a1 + (366 : Int32))).toNatClampNeg)) fun M5 => (bnd (a1 + (1)) fun v6 => (kb v6 M5))))))
def d_X9_record_L10 (kx1 : Mem → Ans) : Nat → Int32 → Mem → Ans
  | 0 => fun _ _ => none
  | n + 1 => fun a1 M => d_X9_record_L10_body kx1 (d_X9_record_L10 kx1 n) a1 M
def d_X9_record (M : Mem) : Ans :=
  (if (M 143 2) = (4 : Int32) then (d_X9_record_L10 (fun M7 => (bnd (mup M7 143 2 ((M7 143 2) - (1 : Int32))) fun M8 => (d_X9_record_B49 M8))) fuelN (0 : Int32) M) else (d_X9_record_B49 M))
def d_X9_asks_B117 (a1 : Int32) (a2 : Int32) (a3 : Int32) (a4 : Int32) (s0 : Int32) (M : Mem) : Ans :=
  (bnd (mup M 143 10 s0) fun M12 => (bd (d_X9_ofRecipe a2 (2 : Int32) M12) fun r14 M13 => (if a4 = ((a3 + r14) - (1 : Int32)) then (chk a1 61 (bnd (mup M13 148 (a1).toNatClampNeg (2 : Int32)) fun M16 => (some (0, M16)))) else (chk a1 61 (bnd (mup M13 148 (a1).toNatClampNeg (1 : Int32)) fun M15 => (some (0, M15)))))))
def d_X9_asks_B70 (a1 : Int32) (a2 : Int32) (a3 : Int32) (a4 : Int32) (a5 : Int32) (s0 : Int32) (s1 : Int32) (M : Mem) : Ans :=
  (chk s1 61 (bnd (mup M 150 (s1).toNatClampNeg s0) fun M8 => (if 0 ≤ a5 then (bd (d_X9_ofRecipe a2 (1 : Int32) M8) fun r10 M9 => (bnd ((M8 143 10) - r10) fun v11 => (if 0 ≤ v11 then (d_X9_asks_B117 a1 a2 a3 a4 v11 M9) else (d_X9_asks_B117 a1 a2 a3 a4 (0 : Int32) M9)))) else (chk a1 61 (bnd (mup M8 148 (a1).toNatClampNeg (3 : Int32)) fun M17 => (chk a1 61 (bnd (mup M17 149 (a1).toNatClampNeg a4) fun M18 => (some (0, M18)))))))))
def d_X9_asks (p1 : Int32) (p2 : Int32) (p3 : Int32) (p4 : Int32) (M : Mem) : Ans :=
  (chk p1 61 (if (1 : Int32) < (M 148 (p1).toNatClampNeg) then (some (0, M)) else (bd (d_X9_ofRecipe p2 (2 : Int32) M) fun r2 M1 => (bd (d_X9_in p4 p3 ((p3 + r2) - (1 : Int32)) M1) fun r4 M3 => (if r4 = 0 then (some (0, M3)) else (bd (d_X9_ofRecipe p2 (0 : Int32) M3) fun r6 M5 => (bnd ((M3 143 10) - r6) fun v7 => (chk p1 61 (if (M5 150 (p1).toNatClampNeg) ≤ v7 then (chk p1 61 (d_X9_asks_B70 p1 p2 p3 p4 v7 (M5 150 (p1).toNatClampNeg) p1 M5)) else (d_X9_asks_B70 p1 p2 p3 p4 v7 v7 p1 M5))))))))))
def d_X9_begins_B43 (kx1 : Mem → Ans) (kb : Int32 → Mem → Ans) (a1 : Int32) (s0 : Int32) (s1 : Int32) (M : Mem) : Ans :=
  (chk s1 61 (bnd (mup M 148 (s1).toNatClampNeg s0) fun M2 => (chk a1 61 (bnd (mup M2 149 (a1).toNatClampNeg (0 : Int32)) fun M3 => (chk a1 61 (bnd (mup M3 150 (a1).toNatClampNeg (99999 : Int32)) fun M4 => (bnd (a1 + (1)) fun v5 => (kb v5 M4))))))))
def d_X9_begins_L12_body (kx1 : Mem → Ans) (kb : Int32 → Mem → Ans) (a1 : Int32) (M : Mem) : Ans :=
  (if (60 : Int32) < a1 then (kx1 M) else (chk (5 : Int32) 366 (if (M 144 ((5 : Int32)).toNatClampNeg) ≤ a1 then (d_X9_begins_B43 kx1 kb a1 (0 : Int32) a1 M) else (bd (d_X9_of a1 (3 : Int32) M) fun r7 M6 => (d_X9_begins_B43 kx1 kb a1 r7 a1 M6)))))
def d_X9_begins_L12 (kx1 : Mem → Ans) : Nat → Int32 → Mem → Ans
  | 0 => fun _ _ => none
  | n + 1 => fun a1 M => d_X9_begins_L12_body kx1 (d_X9_begins_L12 kx1 n) a1 M
def d_X9_begins (M : Mem) : Ans :=
  (chk (1 : Int32) 366 (bnd (mup M 143 10 (M 144 ((1 : Int32)).toNatClampNeg)) fun M1 => (d_X9_begins_L12 (fun M8 => (some (0, M8))) fuelN (0 : Int32) M1)))
def d_X9_foresees_B98 (kx1 : Mem → Ans) (kb : Int32 → Mem → Ans) (a1 : Int32) (a2 : Int32) (M : Mem) : Ans :=
  (bnd (a2 + (1)) fun v3 => (kb v3 M))
def d_X9_foresees_B94 (kx1 : Mem → Ans) (kb : Int32 → Mem → Ans) (a1 : Int32) (a2 : Int32) (s0 : Int32) (s1 : Int32) (s2 : Int32) (M : Mem) : Ans :=
  (bd (d_X9_asks s2 s1 s0 a1 M) fun r9 M8 => (d_X9_foresees_B98 kx1 kb a1 a2 M8))
def d_X9_foresees_L47_body (a1 : Int32) (kx1 : Mem → Ans) (kb : Int32 → Mem → Ans) (a2 : Int32) (M : Mem) : Ans :=
  (chk (5 : Int32) 366 (if (M 144 ((5 : Int32)).toNatClampNeg) ≤ a2 then (kx1 M) else (if a2 = (M 143 13) then (d_X9_foresees_B98 kx1 kb a1 a2 M) else (bd (d_X9_of a2 (1 : Int32) M) fun r5 M4 => (if a2 = (M4 143 14) then (d_X9_foresees_B94 kx1 kb a1 a2 (M4 143 15) r5 a2 M4) else (bd (d_X9_of a2 (2 : Int32) M4) fun r7 M6 => (d_X9_foresees_B94 kx1 kb a1 a2 r7 r5 a2 M6)))))))
def d_X9_foresees_L47 (a1 : Int32) (kx1 : Mem → Ans) : Nat → Int32 → Mem → Ans
  | 0 => fun _ _ => none
  | n + 1 => fun a2 M => d_X9_foresees_L47_body a1 kx1 (d_X9_foresees_L47 a1 kx1 n) a2 M
def d_X9_foresees_B42 (a1 : Int32) (s0 : Int32) (M : Mem) : Ans :=
  (bnd (mup M 143 10 s0) fun M2 => (d_X9_foresees_L47 a1 (fun M10 => (if (M10 143 11) < 0 then (some (0, M10)) else (bd (d_X9_asks (60 : Int32) (M10 143 11) (M10 143 12) a1 M10) fun r12 M11 => (some (0, M11))))) fuelN (0 : Int32) M2))
def d_X9_foresees (p1 : Int32) (M : Mem) : Ans :=
  (chk (3 : Int32) 366 (bnd (mup M 143 10 ((M 143 10) + (M 144 ((3 : Int32)).toNatClampNeg))) fun M1 => (chk (2 : Int32) 366 (if (M1 143 10) ≤ (M1 144 ((2 : Int32)).toNatClampNeg) then (d_X9_foresees_B42 p1 (M1 143 10) M1) else (chk (2 : Int32) 366 (d_X9_foresees_B42 p1 (M1 144 ((2 : Int32)).toNatClampNeg) M1))))))
def d_X9_forecast_L6_body (kx1 : Mem → Ans) (kb : Int32 → Mem → Ans) (a1 : Int32) (M : Mem) : Ans :=
  (if (80 : Int32) < a1 then (kx1 M) else (chk (0 : Int32) 366 (bd (d_X9_foresees ((M 144 ((0 : Int32)).toNatClampNeg) + a1) M) fun r4 M3 => (bnd (a1 + (1)) fun v5 => (kb v5 M3)))))
def d_X9_forecast_L6 (kx1 : Mem → Ans) : Nat → Int32 → Mem → Ans
  | 0 => fun _ _ => none
  | n + 1 => fun a1 M => d_X9_forecast_L6_body kx1 (d_X9_forecast_L6 kx1 n) a1 M
def d_X9_forecast (M : Mem) : Ans :=
  (bd (d_X9_begins M) fun r2 M1 => (d_X9_forecast_L6 (fun M6 => (some (0, M6))) fuelN (1 : Int32) M1))
def d_X9_doomed_B33 (kx1 : Int32 → Mem → Ans) (kb : Int32 → Int32 → Mem → Ans) (a2 : Int32) (s0 : Int32) (s1 : Int32) (M : Mem) : Ans :=
  (bnd (s1 + s0) fun v3 => (bnd (a2 + (1)) fun v4 => (kb v3 v4 M)))
def d_X9_doomed_L8_body (kx1 : Int32 → Mem → Ans) (kb : Int32 → Int32 → Mem → Ans) (a1 : Int32) (a2 : Int32) (M : Mem) : Ans :=
  (chk (5 : Int32) 366 (if (M 144 ((5 : Int32)).toNatClampNeg) ≤ a2 then (kx1 a1 M) else (chk a2 61 (if (M 149 (a2).toNatClampNeg) ≤ 0 then (d_X9_doomed_B33 kx1 kb a2 (0 : Int32) a1 M) else (d_X9_doomed_B33 kx1 kb a2 (1 : Int32) a1 M)))))
def d_X9_doomed_L8 (kx1 : Int32 → Mem → Ans) : Nat → Int32 → Int32 → Mem → Ans
  | 0 => fun _ _ _ => none
  | n + 1 => fun a1 a2 M => d_X9_doomed_L8_body kx1 (d_X9_doomed_L8 kx1 n) a1 a2 M
def d_X9_doomed (M : Mem) : Ans :=
  (bd (d_X9_forecast M) fun r2 M1 => (d_X9_doomed_L8 (fun v5 M6 => (some (v5, M6))) fuelN (0 : Int32) (0 : Int32) M1))
def d_X9_last (p1 : Int32) (p2 : Int32) (M : Mem) : Ans :=
  (bd (d_X9_ofRecipe p1 (2 : Int32) M) fun r2 M1 => (bd (d_X9_ofRecipe p1 (3 : Int32) M1) fun r4 M3 => (some ((((p2 + r2) - (1 : Int32)) + r4), M3))))
def d_X9_keeper_B79 (kx1 : Mem → Ans) (kb : Int32 → Mem → Ans) (a1 : Int32) (a2 : Int32) (a3 : Int32) (a4 : Int32) (a5 : Int32) (M : Mem) : Ans :=
  (bnd (a5 + (1)) fun v1 => (kb v1 M))
def d_X9_keeper_L3_body (a1 : Int32) (a2 : Int32) (a3 : Int32) (a4 : Int32) (kx1 : Mem → Ans) (kb : Int32 → Mem → Ans) (a5 : Int32) (M : Mem) : Ans :=
  (chk (5 : Int32) 366 (if (M 144 ((5 : Int32)).toNatClampNeg) ≤ a5 then (kx1 M) else (if a5 = a4 then (d_X9_keeper_B79 kx1 kb a1 a2 a3 a4 a5 M) else (bd (d_X9_of a5 (0 : Int32) M) fun r3 M2 => (if r3 = a1 then (bd (d_X9_of a5 (3 : Int32) M2) fun r5 M4 => (if (2 : Int32) < r5 then (d_X9_keeper_B79 kx1 kb a1 a2 a3 a4 a5 M4) else (bd (d_X9_of a5 (2 : Int32) M4) fun r7 M6 => (if a3 < r7 then (d_X9_keeper_B79 kx1 kb a1 a2 a3 a4 a5 M6) else (bd (d_X9_of a5 (1 : Int32) M6) fun r9 M8 => (bd (d_X9_of a5 (2 : Int32) M8) fun r11 M10 => (bd (d_X9_last r9 r11 M10) fun r13 M12 => (if r13 < a2 then (d_X9_keeper_B79 kx1 kb a1 a2 a3 a4 a5 M12) else (some (a5, M12)))))))))) else (d_X9_keeper_B79 kx1 kb a1 a2 a3 a4 a5 M2))))))
def d_X9_keeper_L3 (a1 : Int32) (a2 : Int32) (a3 : Int32) (a4 : Int32) (kx1 : Mem → Ans) : Nat → Int32 → Mem → Ans
  | 0 => fun _ _ => none
  | n + 1 => fun a5 M => d_X9_keeper_L3_body a1 a2 a3 a4 kx1 (d_X9_keeper_L3 a1 a2 a3 a4 kx1 n) a5 M
def d_X9_keeper (p1 : Int32) (p2 : Int32) (p3 : Int32) (p4 : Int32) (M : Mem) : Ans :=
  (d_X9_keeper_L3 p1 p2 p3 p4 (fun M14 => (some ((-5 : Int32), M14))) fuelN (0 : Int32) M)
def d_X9_bases_L16_body (kx1 : Mem → Ans) (kb : Int32 → Mem → Ans) (a2 : Int32) (M : Mem) : Ans :=
  (if (60 : Int32) < a2 then (kx1 M) else (chk a2 61 (chk a2 61 (bnd (mup M 151 (a2).toNatClampNeg (M 149 (a2).toNatClampNeg)) fun M5 => (bnd (a2 + (1)) fun v6 => (kb v6 M5))))))
def d_X9_bases_L16 (kx1 : Mem → Ans) : Nat → Int32 → Mem → Ans
  | 0 => fun _ _ => none
  | n + 1 => fun a2 M => d_X9_bases_L16_body kx1 (d_X9_bases_L16 kx1 n) a2 M
def d_X9_bases (p1 : Int32) (M : Mem) : Ans :=
  (bnd (mup M 143 13 p1) fun M1 => (bd (d_X9_forecast M1) fun r3 M2 => (bnd (mup M2 143 13 (-1 : Int32)) fun M4 => (d_X9_bases_L16 (fun M7 => (some (0, M7))) fuelN (0 : Int32) M4))))
def d_X9_reason_B139 (kx1 : Mem → Ans) (kb : Int32 → Mem → Ans) (a5 : Int32) (a6 : Int32) (M : Mem) : Ans :=
  (bnd (a6 + (1)) fun v11 => (kb v11 M))
def d_X9_reason_L93_body (a5 : Int32) (kx1 : Mem → Ans) (kb : Int32 → Mem → Ans) (a6 : Int32) (M : Mem) : Ans :=
  (chk (5 : Int32) 366 (if (M 144 ((5 : Int32)).toNatClampNeg) ≤ a6 then (kx1 M) else (if a6 = a5 then (d_X9_reason_B139 kx1 kb a5 a6 M) else (chk a6 61 (if (M 149 (a6).toNatClampNeg) ≤ 0 then (d_X9_reason_B139 kx1 kb a5 a6 M) else (chk a6 61 (if (M 151 (a6).toNatClampNeg) = 0 then (bnd (mup M 143 16 a6) fun M12 => (some ((3 : Int32), M12))) else (d_X9_reason_B139 kx1 kb a5 a6 M))))))))
def d_X9_reason_L93 (a5 : Int32) (kx1 : Mem → Ans) : Nat → Int32 → Mem → Ans
  | 0 => fun _ _ => none
  | n + 1 => fun a6 M => d_X9_reason_L93_body a5 kx1 (d_X9_reason_L93 a5 kx1 n) a6 M
def d_X9_reason_B76 (s0 : Int32) (M : Mem) : Ans :=
  (chk s0 61 (if (M 149 (s0).toNatClampNeg) ≤ 0 then (d_X9_reason_L93 s0 (fun M13 => (some ((0 : Int32), M13))) fuelN (0 : Int32) M) else (some ((2 : Int32), M))))
def d_X9_reason_B50 (a4 : Int32) (M : Mem) : Ans :=
  (bd (d_X9_forecast M) fun r8 M7 => (bnd (mup M7 143 11 (-1 : Int32)) fun M9 => (bnd (mup M9 143 14 (-1 : Int32)) fun M10 => (if 0 ≤ a4 then (d_X9_reason_B76 a4 M10) else (d_X9_reason_B76 (60 : Int32) M10)))))
def d_X9_reason (p1 : Int32) (p2 : Int32) (p3 : Int32) (p4 : Int32) (M : Mem) : Ans :=
  (bd (d_X9_last p2 p3 M) fun r2 M1 => (bd (d_X9_keeper p1 p3 r2 p4 M1) fun r4 M3 => (if r4 = (-5 : Int32) then (if 0 ≤ p4 then (bnd (mup M3 143 14 p4) fun M5 => (bnd (mup M5 143 15 p3) fun M6 => (d_X9_reason_B50 p4 M6))) else (bnd (mup M3 143 11 p2) fun M14 => (bnd (mup M14 143 12 p3) fun M15 => (d_X9_reason_B50 p4 M15)))) else (some ((1 : Int32), M3)))))
def d_X9_first_L58_body (a1 : Int32) (a2 : Int32) (a5 : Int32) (a7 : Int32) (kx1 : Mem → Ans) (kb : Int32 → Mem → Ans) (a8 : Int32) (M : Mem) : Ans :=
  (if a7 < a8 then (kx1 M) else (bd (d_X9_reason a1 a2 a8 a5 M) fun r2 M1 => (if r2 = 0 then (some (a8, M1)) else (bnd (a8 + (1)) fun v3 => (kb v3 M1)))))
def d_X9_first_L58 (a1 : Int32) (a2 : Int32) (a5 : Int32) (a7 : Int32) (kx1 : Mem → Ans) : Nat → Int32 → Mem → Ans
  | 0 => fun _ _ => none
  | n + 1 => fun a8 M => d_X9_first_L58_body a1 a2 a5 a7 kx1 (d_X9_first_L58 a1 a2 a5 a7 kx1 n) a8 M
def d_X9_first_B52 (a1 : Int32) (a2 : Int32) (a5 : Int32) (a6 : Int32) (s0 : Int32) (M : Mem) : Ans :=
  (d_X9_first_L58 a1 a2 a5 s0 (fun M4 => (some ((-5 : Int32), M4))) fuelN a6 M)
def d_X9_first_B22 (a1 : Int32) (a2 : Int32) (a4 : Int32) (a5 : Int32) (s0 : Int32) (M : Mem) : Ans :=
  (chk (0 : Int32) 366 (if ((M 144 ((0 : Int32)).toNatClampNeg) + (60 : Int32)) ≤ a4 then (chk (0 : Int32) 366 (d_X9_first_B52 a1 a2 a5 s0 ((M 144 ((0 : Int32)).toNatClampNeg) + (60 : Int32)) M)) else (d_X9_first_B52 a1 a2 a5 s0 a4 M)))
def d_X9_first (p1 : Int32) (p2 : Int32) (p3 : Int32) (p4 : Int32) (p5 : Int32) (M : Mem) : Ans :=
  (chk (0 : Int32) 366 (if p3 ≤ (M 144 ((0 : Int32)).toNatClampNeg) then (chk (0 : Int32) 366 (d_X9_first_B22 p1 p2 p4 p5 ((M 144 ((0 : Int32)).toNatClampNeg) + (1 : Int32)) M)) else (d_X9_first_B22 p1 p2 p4 p5 p3 M)))
def d_X9_adds (p1 : Int32) (p2 : Int32) (p3 : Int32) (M : Mem) : Ans :=
  (chk (5 : Int32) 366 (bnd (M 144 ((5 : Int32)).toNatClampNeg) fun v1 => (bd (d_X9_puts v1 (0 : Int32) p1 M) fun r3 M2 => (bd (d_X9_puts v1 (1 : Int32) p2 M2) fun r5 M4 => (bd (d_X9_puts v1 (2 : Int32) p3 M4) fun r7 M6 => (bd (d_X9_puts v1 (3 : Int32) (0 : Int32) M6) fun r9 M8 => (bd (d_X9_puts v1 (4 : Int32) (0 : Int32) M8) fun r11 M10 => (chk (5 : Int32) 366 (chk (5 : Int32) 366 (bnd (mup M10 144 ((5 : Int32)).toNatClampNeg ((M10 144 ((5 : Int32)).toNatClampNeg) + (1 : Int32))) fun M12 => (some (v1, M12))))))))))))
def d_X9_addRecipe (p1 : Int32) (p2 : Int32) (p3 : Int32) (p4 : Int32) (M : Mem) : Ans :=
  (bd (d_X9_in p1 (0 : Int32) (3000 : Int32) M) fun r2 M1 => (if r2 = 0 then (some ((-2 : Int32), M1)) else (bd (d_X9_in p2 (1 : Int32) (500 : Int32) M1) fun r4 M3 => (if r4 = 0 then (some ((-2 : Int32), M3)) else (bd (d_X9_in p3 (1 : Int32) (20 : Int32) M3) fun r6 M5 => (if r6 = 0 then (some ((-2 : Int32), M5)) else (bd (d_X9_in p4 (0 : Int32) (9 : Int32) M5) fun r8 M7 => (if r8 = 0 then (some ((-2 : Int32), M7)) else (chk (4 : Int32) 366 (bnd (M7 144 ((4 : Int32)).toNatClampNeg) fun v9 => (if v9 = (8 : Int32) then (some ((-3 : Int32), M7)) else (bd (d_X9_record M7) fun r11 M10 => (bnd ((10 : Int32) + ((4 : Int32) * v9)) fun v12 => (chk v12 366 (bnd (mup M10 144 (v12).toNatClampNeg p1) fun M13 => (chk (v12 + (1 : Int32)) 366 (bnd (mup M13 144 ((v12 + (1 : Int32))).toNatClampNeg p2) fun M14 => (chk (v12 + (2 : Int32)) 366 (bnd (mup M14 144 ((v12 + (2 : Int32))).toNatClampNeg p3) fun M15 => (chk (v12 + (3 : Int32)) 366 (bnd (mup M15 144 ((v12 + (3 : Int32))).toNatClampNeg p4) fun M16 => (chk (4 : Int32) 366 (chk (4 : Int32) 366 (bnd (mup M16 144 ((4 : Int32)).toNatClampNeg ((M16 144 ((4 : Int32)).toNatClampNeg) + (1 : Int32))) fun M17 => (some (v9, M17))))))))))))))))))))))))))
def d_X9_setHeat (p1 : Int32) (M : Mem) : Ans :=
  (bd (d_X9_in p1 (0 : Int32) (300 : Int32) M) fun r2 M1 => (if r2 = 0 then (some ((-2 : Int32), M1)) else (chk (3 : Int32) 366 (if (M1 144 ((3 : Int32)).toNatClampNeg) = p1 then (some ((-5 : Int32), M1)) else (bd (d_X9_record M1) fun r4 M3 => (chk (3 : Int32) 366 (bnd (mup M3 144 ((3 : Int32)).toNatClampNeg p1) fun M5 => (bd (d_X9_doomed M5) fun r7 M6 => (some (r7, M6))))))))))
def d_X9_setMost_B64 (s0 : Int32) (s1 : Int32) (M : Mem) : Ans :=
  (chk s1 366 (bnd (mup M 144 (s1).toNatClampNeg s0) fun M6 => (chk (1 : Int32) 366 (some ((M6 144 ((1 : Int32)).toNatClampNeg), M6)))))
def d_X9_setMost (p1 : Int32) (M : Mem) : Ans :=
  (bd (d_X9_in p1 (100 : Int32) (3000 : Int32) M) fun r2 M1 => (if r2 = 0 then (some ((-2 : Int32), M1)) else (chk (2 : Int32) 366 (if (M1 144 ((2 : Int32)).toNatClampNeg) = p1 then (some ((-5 : Int32), M1)) else (bd (d_X9_record M1) fun r4 M3 => (chk (2 : Int32) 366 (bnd (mup M3 144 ((2 : Int32)).toNatClampNeg p1) fun M5 => (chk (1 : Int32) 366 (if (M5 144 ((1 : Int32)).toNatClampNeg) ≤ p1 then (chk (1 : Int32) 366 (d_X9_setMost_B64 (M5 144 ((1 : Int32)).toNatClampNeg) (1 : Int32) M5)) else (d_X9_setMost_B64 p1 (1 : Int32) M5))))))))))
def d_X9_fall_B53 (s0 : Int32) (s1 : Int32) (M : Mem) : Ans :=
  (chk s1 366 (bnd (mup M 144 (s1).toNatClampNeg s0) fun M6 => (bd (d_X9_doomed M6) fun r8 M7 => (some (r8, M7)))))
def d_X9_fall (p1 : Int32) (M : Mem) : Ans :=
  (bd (d_X9_in p1 (1 : Int32) (3000 : Int32) M) fun r2 M1 => (if r2 = 0 then (some ((-2 : Int32), M1)) else (chk (1 : Int32) 366 (if (M1 144 ((1 : Int32)).toNatClampNeg) = 0 then (some ((-5 : Int32), M1)) else (bd (d_X9_record M1) fun r4 M3 => (chk (1 : Int32) 366 (bnd ((M3 144 ((1 : Int32)).toNatClampNeg) - p1) fun v5 => (if 0 ≤ v5 then (d_X9_fall_B53 v5 (1 : Int32) M3) else (d_X9_fall_B53 (0 : Int32) (1 : Int32) M3)))))))))
def d_X9_wrong (p1 : Int32) (p2 : Int32) (p3 : Int32) (M : Mem) : Ans :=
  (bd (d_X9_noRobot p1 M) fun r2 M1 => (if r2 = 0 then (bd (d_X9_noRecipe p2 M1) fun r4 M3 => (if r4 = 0 then (bd (d_X9_isStart p3 M3) fun r6 M5 => (if r6 = 0 then (some ((-2 : Int32), M5)) else (chk (5 : Int32) 366 (if (M5 144 ((5 : Int32)).toNatClampNeg) = (60 : Int32) then (some ((-3 : Int32), M5)) else (bd (d_X9_bases (-1 : Int32) M5) fun r8 M7 => (bd (d_X9_reason p1 p2 p3 (-1 : Int32) M7) fun r10 M9 => (if r10 = 0 then (some ((0 : Int32), M9)) else (if r10 = (1 : Int32) then (some ((-6 : Int32), M9)) else (some ((-7 : Int32), M9)))))))))) else (some ((-1 : Int32), M3)))) else (some ((-1 : Int32), M1))))
def d_X9_book (p1 : Int32) (p2 : Int32) (p3 : Int32) (M : Mem) : Ans :=
  (bd (d_X9_wrong p1 p2 p3 M) fun r2 M1 => (if r2 = 0 then (bd (d_X9_record M1) fun r4 M3 => (bd (d_X9_adds p1 p2 p3 M3) fun r6 M5 => (some (r6, M5)))) else (some (r2, M1))))
def d_X9_grants (p1 : Int32) (p2 : Int32) (p3 : Int32) (M : Mem) : Ans :=
  (chk (5 : Int32) 366 (if (M 144 ((5 : Int32)).toNatClampNeg) = (60 : Int32) then (some ((-5 : Int32), M)) else (bd (d_X9_bases (-1 : Int32) M) fun r2 M1 => (bd (d_X9_first p1 p2 p3 (p3 + (20 : Int32)) (-1 : Int32) M1) fun r4 M3 => (if r4 = (-5 : Int32) then (some ((-5 : Int32), M3)) else (chk (7 : Int32) 366 (chk (7 : Int32) 366 (bnd (mup M3 144 ((7 : Int32)).toNatClampNeg ((M3 144 ((7 : Int32)).toNatClampNeg) + (1 : Int32))) fun M5 => (bd (d_X9_adds p1 p2 r4 M5) fun r7 M6 => (some (r7, M6)))))))))))
def d_X9_leaves_L15_body (kx1 : Mem → Ans) (kb : Int32 → Mem → Ans) (a2 : Int32) (M : Mem) : Ans :=
  (chk (6 : Int32) 366 (if ((3 : Int32) * (M 144 ((6 : Int32)).toNatClampNeg)) ≤ a2 then (kx1 M) else (chk (((342 : Int32) + a2) + (3 : Int32)) 366 (chk ((342 : Int32) + a2) 366 (bnd (mup M 144 (((342 : Int32) + a2)).toNatClampNeg (M 144 ((((342 : Int32) + a2) + (3 : Int32))).toNatClampNeg)) fun M3 => (bnd (a2 + (1)) fun v4 => (kb v4 M3)))))))
def d_X9_leaves_L15 (kx1 : Mem → Ans) : Nat → Int32 → Mem → Ans
  | 0 => fun _ _ => none
  | n + 1 => fun a2 M => d_X9_leaves_L15_body kx1 (d_X9_leaves_L15 kx1 n) a2 M
def d_X9_leaves (p1 : Int32) (M : Mem) : Ans :=
  (chk (6 : Int32) 366 (chk (6 : Int32) 366 (bnd (mup M 144 ((6 : Int32)).toNatClampNeg ((M 144 ((6 : Int32)).toNatClampNeg) - (1 : Int32))) fun M1 => (bnd ((3 : Int32) * p1) fun v2 => (d_X9_leaves_L15 (fun M5 => (some (0, M5))) fuelN v2 M1)))))
def d_X9_cancel_L36_body (kx1 : Int32 → Mem → Ans) (kb : Int32 → Int32 → Mem → Ans) (a2 : Int32) (a3 : Int32) (M : Mem) : Ans :=
  (chk (6 : Int32) 366 (if (M 144 ((6 : Int32)).toNatClampNeg) ≤ a3 then (kx1 a2 M) else (bd (d_X9_ofWish a3 (0 : Int32) M) fun r10 M9 => (bd (d_X9_ofWish a3 (1 : Int32) M9) fun r12 M11 => (bd (d_X9_ofWish a3 (2 : Int32) M11) fun r14 M13 => (bd (d_X9_grants r10 r12 r14 M13) fun r16 M15 => (if r16 = (-5 : Int32) then (bnd (a3 + (1)) fun v20 => (kb a2 v20 M15)) else (bd (d_X9_leaves a3 M15) fun r18 M17 => (bnd (a2 + (1)) fun v19 => (kb v19 a3 M17))))))))))
def d_X9_cancel_L36 (kx1 : Int32 → Mem → Ans) : Nat → Int32 → Int32 → Mem → Ans
  | 0 => fun _ _ _ => none
  | n + 1 => fun a2 a3 M => d_X9_cancel_L36_body kx1 (d_X9_cancel_L36 kx1 n) a2 a3 M
def d_X9_cancel (p1 : Int32) (M : Mem) : Ans :=
  (bd (d_X9_noBooking p1 M) fun r2 M1 => (if r2 = 0 then (bd (d_X9_isOpen p1 M1) fun r4 M3 => (if r4 = 0 then (some ((-4 : Int32), M3)) else (bd (d_X9_record M3) fun r6 M5 => (bd (d_X9_puts p1 (3 : Int32) (4 : Int32) M5) fun r8 M7 => (d_X9_cancel_L36 (fun v21 M22 => (some (v21, M22))) fuelN (0 : Int32) (0 : Int32) M7))))) else (some ((-1 : Int32), M1))))
def d_X9_move (p1 : Int32) (p2 : Int32) (M : Mem) : Ans :=
  (bd (d_X9_noBooking p1 M) fun r2 M1 => (if r2 = 0 then (bd (d_X9_of p1 (3 : Int32) M1) fun r4 M3 => (if r4 = 0 then (bd (d_X9_isStart p2 M3) fun r6 M5 => (if r6 = 0 then (some ((-2 : Int32), M5)) else (bd (d_X9_of p1 (2 : Int32) M5) fun r8 M7 => (if r8 = p2 then (some ((-5 : Int32), M7)) else (bd (d_X9_bases p1 M7) fun r10 M9 => (bd (d_X9_of p1 (0 : Int32) M9) fun r12 M11 => (bd (d_X9_of p1 (1 : Int32) M11) fun r14 M13 => (bd (d_X9_reason r12 r14 p2 p1 M13) fun r16 M15 => (if r16 = 0 then (bd (d_X9_record M15) fun r18 M17 => (bd (d_X9_puts p1 (2 : Int32) p2 M17) fun r20 M19 => (some (r8, M19)))) else (if r16 = (1 : Int32) then (some ((-6 : Int32), M15)) else (some ((-7 : Int32), M15)))))))))))) else (some ((-4 : Int32), M3)))) else (some ((-1 : Int32), M1))))
def d_X9_sick_B45 (kx1 : Mem → Ans) (kb : Int32 → Mem → Ans) (a1 : Int32) (M : Mem) : Ans :=
  (bnd (a1 + (1)) fun v5 => (kb v5 M))
def d_X9_sick_L6_body (kx1 : Mem → Ans) (kb : Int32 → Mem → Ans) (a1 : Int32) (M : Mem) : Ans :=
  (chk (5 : Int32) 366 (if (M 144 ((5 : Int32)).toNatClampNeg) ≤ a1 then (kx1 M) else (bd (d_X9_of a1 (3 : Int32) M) fun r4 M3 => (if r4 = 0 then (chk a1 61 (if (M3 149 (a1).toNatClampNeg) ≤ 0 then (d_X9_sick_B45 kx1 kb a1 M3) else (chk a1 60 (if (M3 152 (a1).toNatClampNeg) = 0 then (some (a1, M3)) else (d_X9_sick_B45 kx1 kb a1 M3))))) else (d_X9_sick_B45 kx1 kb a1 M3)))))
def d_X9_sick_L6 (kx1 : Mem → Ans) : Nat → Int32 → Mem → Ans
  | 0 => fun _ _ => none
  | n + 1 => fun a1 M => d_X9_sick_L6_body kx1 (d_X9_sick_L6 kx1 n) a1 M
def d_X9_sick (M : Mem) : Ans :=
  (bd (d_X9_forecast M) fun r2 M1 => (d_X9_sick_L6 (fun M6 => (some ((-5 : Int32), M6))) fuelN (0 : Int32) M1))
def d_X9_repair_L2_body (kx1 : Mem → Ans) (kb : Int32 → Mem → Ans) (a1 : Int32) (M : Mem) : Ans :=
  (if (60 : Int32) ≤ a1 then (kx1 M) else (chk a1 60 (bnd (mup M 152 (a1).toNatClampNeg (vp_nar .boolean (0 : Int32))) fun M1 => (bnd (a1 + (1)) fun v2 => (kb v2 M1)))))
def d_X9_repair_L2 (kx1 : Mem → Ans) : Nat → Int32 → Mem → Ans
  | 0 => fun _ _ => none
  | n + 1 => fun a1 M => d_X9_repair_L2_body kx1 (d_X9_repair_L2 kx1 n) a1 M
def d_X9_repair_B113 (kx1 : Int32 → Mem → Ans) (kb : Int32 → Int32 → Mem → Ans) (a1 : Int32) (a2 : Int32) (M : Mem) : Ans :=
  (chk a1 60 (bnd (mup M 152 (a1).toNatClampNeg (vp_nar .boolean (1 : Int32))) fun M21 => (bd (d_X9_sick M21) fun r23 M22 => (kb r23 a2 M22))))
def d_X9_repair_L41_body (kx1 : Int32 → Mem → Ans) (kb : Int32 → Int32 → Mem → Ans) (a1 : Int32) (a2 : Int32) (M : Mem) : Ans :=
  (if a1 = (-5 : Int32) then (kx1 a2 M) else (bd (d_X9_bases a1 M) fun r9 M8 => (bd (d_X9_of a1 (0 : Int32) M8) fun r11 M10 => (bd (d_X9_of a1 (1 : Int32) M10) fun r13 M12 => (bd (d_X9_of a1 (2 : Int32) M12) fun r15 M14 => (chk (0 : Int32) 366 (bd (d_X9_first r11 r13 (r15 + (1 : Int32)) ((M14 144 ((0 : Int32)).toNatClampNeg) + (60 : Int32)) a1 M14) fun r17 M16 => (if r17 = (-5 : Int32) then (bd (d_X9_puts a1 (3 : Int32) (4 : Int32) M16) fun r25 M24 => (d_X9_repair_B113 kx1 kb a1 a2 M24)) else (bd (d_X9_puts a1 (2 : Int32) r17 M16) fun r19 M18 => (bnd (a2 + (1)) fun v20 => (d_X9_repair_B113 kx1 kb a1 v20 M18)))))))))))
def d_X9_repair_L41 (kx1 : Int32 → Mem → Ans) : Nat → Int32 → Int32 → Mem → Ans
  | 0 => fun _ _ _ => none
  | n + 1 => fun a1 a2 M => d_X9_repair_L41_body kx1 (d_X9_repair_L41 kx1 n) a1 a2 M
def d_X9_repair (M : Mem) : Ans :=
  (d_X9_repair_L2 (fun M3 => (bd (d_X9_sick M3) fun r5 M4 => (if r5 = (-5 : Int32) then (some ((-5 : Int32), M4)) else (bd (d_X9_record M4) fun r7 M6 => (d_X9_repair_L41 (fun v26 M27 => (some (v26, M27))) fuelN r5 (0 : Int32) M6))))) fuelN (0 : Int32) M)
def d_X9_goes_L2_body (kx1 : Mem → Ans) (kb : Int32 → Mem → Ans) (a1 : Int32) (M : Mem) : Ans :=
  (if (366 : Int32) ≤ a1 then (kx1 M) else (chk a1 366 (chk a1 366 (bnd (mup M 147 (a1).toNatClampNeg (M 144 (a1).toNatClampNeg)) fun M1 => (bnd (a1 + (1)) fun v2 => (kb v2 M1))))))
def d_X9_goes_L2 (kx1 : Mem → Ans) : Nat → Int32 → Mem → Ans
  | 0 => fun _ _ => none
  | n + 1 => fun a1 M => d_X9_goes_L2_body kx1 (d_X9_goes_L2 kx1 n) a1 M
def d_X9_goes (M : Mem) : Ans :=
  (d_X9_goes_L2 (fun M3 => (some (0, M3))) fuelN (0 : Int32) M)
def d_X9_comes_L2_body (kx1 : Mem → Ans) (kb : Int32 → Mem → Ans) (a1 : Int32) (M : Mem) : Ans :=
  (if (366 : Int32) ≤ a1 then (kx1 M) else (chk a1 366 (chk a1 366 (bnd (mup M 144 (a1).toNatClampNeg (M 147 (a1).toNatClampNeg)) fun M1 => (bnd (a1 + (1)) fun v2 => (kb v2 M1))))))
def d_X9_comes_L2 (kx1 : Mem → Ans) : Nat → Int32 → Mem → Ans
  | 0 => fun _ _ => none
  | n + 1 => fun a1 M => d_X9_comes_L2_body kx1 (d_X9_comes_L2 kx1 n) a1 M
def d_X9_comes (M : Mem) : Ans :=
  (d_X9_comes_L2 (fun M3 => (some (0, M3))) fuelN (0 : Int32) M)
def d_X9_wish_B63 (a1 : Int32) (a2 : Int32) (a3 : Int32) (a4 : Int32) (M : Mem) : Ans :=
  (bd (d_X9_comes M) fun r12 M11 => (bd (d_X9_record M11) fun r14 M13 => (bd (d_X9_grants a1 a2 a3 M13) fun r16 M15 => (if r16 = (-5 : Int32) then (chk (6 : Int32) 366 (bnd ((342 : Int32) + ((3 : Int32) * (M15 144 ((6 : Int32)).toNatClampNeg))) fun v17 => (chk v17 366 (bnd (mup M15 144 (v17).toNatClampNeg a1) fun M18 => (chk (v17 + (1 : Int32)) 366 (bnd (mup M18 144 ((v17 + (1 : Int32))).toNatClampNeg a2) fun M19 => (chk (v17 + (2 : Int32)) 366 (bnd (mup M19 144 ((v17 + (2 : Int32))).toNatClampNeg a3) fun M20 => (chk (6 : Int32) 366 (chk (6 : Int32) 366 (bnd (mup M20 144 ((6 : Int32)).toNatClampNeg ((M20 144 ((6 : Int32)).toNatClampNeg) + (1 : Int32))) fun M21 => (chk (6 : Int32) 366 (some (((1000 : Int32) + (M21 144 ((6 : Int32)).toNatClampNeg)), M21)))))))))))))) else (some (a4, M15))))))
def d_X9_wish (p1 : Int32) (p2 : Int32) (p3 : Int32) (M : Mem) : Ans :=
  (bd (d_X9_noRobot p1 M) fun r2 M1 => (if r2 = 0 then (bd (d_X9_noRecipe p2 M1) fun r4 M3 => (if r4 = 0 then (bd (d_X9_isStart p3 M3) fun r6 M5 => (if r6 = 0 then (some ((-2 : Int32), M5)) else (bd (d_X9_goes M5) fun r8 M7 => (bd (d_X9_grants p1 p2 p3 M7) fun r10 M9 => (if r10 = (-5 : Int32) then (chk (6 : Int32) 366 (if (M9 144 ((6 : Int32)).toNatClampNeg) = (8 : Int32) then (some ((-3 : Int32), M9)) else (d_X9_wish_B63 p1 p2 p3 r10 M9))) else (d_X9_wish_B63 p1 p2 p3 r10 M9)))))) else (some ((-1 : Int32), M3)))) else (some ((-1 : Int32), M1))))
def d_X9_unwish (p1 : Int32) (M : Mem) : Ans :=
  (chk (6 : Int32) 366 (bd (d_X9_in p1 (0 : Int32) ((M 144 ((6 : Int32)).toNatClampNeg) - (1 : Int32)) M) fun r2 M1 => (if r2 = 0 then (some ((-1 : Int32), M1)) else (bd (d_X9_record M1) fun r4 M3 => (bd (d_X9_ofWish p1 (1 : Int32) M3) fun r6 M5 => (bd (d_X9_leaves p1 M5) fun r8 M7 => (some (r6, M7))))))))
def d_X9_draws_B163 (a3 : Int32) (s0 : Int32) (s1 : Int32) (s2 : Int32) (M : Mem) : Ans :=
  (bd (d_X9_puts s2 s1 s0 M) fun r25 M24 => (chk (0 : Int32) 366 (if (M24 144 ((0 : Int32)).toNatClampNeg) = a3 then (some ((1 : Int32), M24)) else (some ((0 : Int32), M24)))))
def d_X9_draws_B106 (a1 : Int32) (a3 : Int32) (s0 : Int32) (M : Mem) : Ans :=
  (chk (1 : Int32) 366 (chk (1 : Int32) 366 (bnd (mup M 144 ((1 : Int32)).toNatClampNeg ((M 144 ((1 : Int32)).toNatClampNeg) - s0)) fun M18 => (chk (9 : Int32) 366 (chk (9 : Int32) 366 (bnd (mup M18 144 ((9 : Int32)).toNatClampNeg ((M18 144 ((9 : Int32)).toNatClampNeg) + s0)) fun M19 => (bd (d_X9_of a1 (4 : Int32) M19) fun r21 M20 => (bd (d_X9_puts a1 (4 : Int32) (r21 + (1 : Int32)) M20) fun r23 M22 => (chk (0 : Int32) 366 (if (M22 144 ((0 : Int32)).toNatClampNeg) = a3 then (d_X9_draws_B163 a3 (2 : Int32) (3 : Int32) a1 M22) else (d_X9_draws_B163 a3 (1 : Int32) (3 : Int32) a1 M22)))))))))))
def d_X9_draws (p1 : Int32) (M : Mem) : Ans :=
  (bd (d_X9_of p1 (1 : Int32) M) fun r2 M1 => (bd (d_X9_of p1 (2 : Int32) M1) fun r4 M3 => (bd (d_X9_ofRecipe r2 (2 : Int32) M3) fun r6 M5 => (bnd ((r4 + r6) - (1 : Int32)) fun v7 => (bd (d_X9_isOpen p1 M5) fun r9 M8 => (if r9 = 0 then (some ((0 : Int32), M8)) else (chk (0 : Int32) 366 (bd (d_X9_of p1 (2 : Int32) M8) fun r11 M10 => (bd (d_X9_in (M8 144 ((0 : Int32)).toNatClampNeg) r11 v7 M10) fun r13 M12 => (if r13 = 0 then (some ((0 : Int32), M12)) else (chk (1 : Int32) 366 (bd (d_X9_ofRecipe r2 (0 : Int32) M12) fun r15 M14 => (if r15 ≤ (M12 144 ((1 : Int32)).toNatClampNeg) then (bd (d_X9_ofRecipe r2 (1 : Int32) M14) fun r17 M16 => (chk (1 : Int32) 366 (if r17 ≤ (M16 144 ((1 : Int32)).toNatClampNeg) then (d_X9_draws_B106 p1 v7 r17 M16) else (chk (1 : Int32) 366 (d_X9_draws_B106 p1 v7 (M16 144 ((1 : Int32)).toNatClampNeg) M16))))) else (bd (d_X9_puts p1 (3 : Int32) (3 : Int32) M14) fun r27 M26 => (some ((0 : Int32), M26))))))))))))))))
def d_X9_aTick_B89 (kx1 : Int32 → Mem → Ans) (kb : Int32 → Int32 → Mem → Ans) (a2 : Int32) (s0 : Int32) (s1 : Int32) (M : Mem) : Ans :=
  (bnd (s1 + s0) fun v6 => (bnd (a2 + (1)) fun v7 => (kb v6 v7 M)))
def d_X9_aTick_L65_body (kx1 : Int32 → Mem → Ans) (kb : Int32 → Int32 → Mem → Ans) (a1 : Int32) (a2 : Int32) (M : Mem) : Ans :=
  (chk (5 : Int32) 366 (if (M 144 ((5 : Int32)).toNatClampNeg) ≤ a2 then (kx1 a1 M) else (bd (d_X9_draws a2 M) fun r5 M4 => (if r5 = 0 then (d_X9_aTick_B89 kx1 kb a2 (0 : Int32) a1 M4) else (d_X9_aTick_B89 kx1 kb a2 (1 : Int32) a1 M4)))))
def d_X9_aTick_L65 (kx1 : Int32 → Mem → Ans) : Nat → Int32 → Int32 → Mem → Ans
  | 0 => fun _ _ _ => none
  | n + 1 => fun a1 a2 M => d_X9_aTick_L65_body kx1 (d_X9_aTick_L65 kx1 n) a1 a2 M
def d_X9_aTick_L99_body (a1 : Int32) (kx1 : Mem → Ans) (kb : Int32 → Mem → Ans) (a2 : Int32) (M : Mem) : Ans :=
  (chk (6 : Int32) 366 (if (M 144 ((6 : Int32)).toNatClampNeg) ≤ a2 then (kx1 M) else (bd (d_X9_ofWish a2 (2 : Int32) M) fun r11 M10 => (chk (0 : Int32) 366 (if (M10 144 ((0 : Int32)).toNatClampNeg) < (r11 + (20 : Int32)) then (bnd (a2 + (1)) fun v12 => (kb v12 M10)) else (bd (d_X9_leaves a2 M10) fun r14 M13 => (chk (8 : Int32) 366 (chk (8 : Int32) 366 (bnd (mup M13 144 ((8 : Int32)).toNatClampNeg ((M13 144 ((8 : Int32)).toNatClampNeg) + (1 : Int32))) fun M15 => (kb a2 M15))))))))))
def d_X9_aTick_L99 (a1 : Int32) (kx1 : Mem → Ans) : Nat → Int32 → Mem → Ans
  | 0 => fun _ _ => none
  | n + 1 => fun a2 M => d_X9_aTick_L99_body a1 kx1 (d_X9_aTick_L99 a1 kx1 n) a2 M
def d_X9_aTick_B60 (s0 : Int32) (s1 : Int32) (M : Mem) : Ans :=
  (chk s1 366 (bnd (mup M 144 (s1).toNatClampNeg s0) fun M3 => (d_X9_aTick_L65 (fun v8 M9 => (d_X9_aTick_L99 v8 (fun M16 => (some (v8, M16))) fuelN (0 : Int32) M9)) fuelN (0 : Int32) (0 : Int32) M3)))
def d_X9_aTick (M : Mem) : Ans :=
  (chk (0 : Int32) 366 (chk (0 : Int32) 366 (bnd (mup M 144 ((0 : Int32)).toNatClampNeg ((M 144 ((0 : Int32)).toNatClampNeg) + (1 : Int32))) fun M1 => (chk (1 : Int32) 366 (chk (3 : Int32) 366 (chk (1 : Int32) 366 (bnd (mup M1 144 ((1 : Int32)).toNatClampNeg ((M1 144 ((1 : Int32)).toNatClampNeg) + (M1 144 ((3 : Int32)).toNatClampNeg))) fun M2 => (chk (1 : Int32) 366 (chk (2 : Int32) 366 (if (M2 144 ((1 : Int32)).toNatClampNeg) ≤ (M2 144 ((2 : Int32)).toNatClampNeg) then (chk (1 : Int32) 366 (d_X9_aTick_B60 (M2 144 ((1 : Int32)).toNatClampNeg) (1 : Int32) M2)) else (chk (2 : Int32) 366 (d_X9_aTick_B60 (M2 144 ((2 : Int32)).toNatClampNeg) (1 : Int32) M2))))))))))))
def d_X9_pass_L39_body (a1 : Int32) (kx1 : Int32 → Mem → Ans) (kb : Int32 → Int32 → Mem → Ans) (a2 : Int32) (a3 : Int32) (M : Mem) : Ans :=
  (if a1 ≤ a3 then (kx1 a2 M) else (bd (d_X9_aTick M) fun r6 M5 => (bnd (a2 + r6) fun v7 => (bnd (a3 + (1)) fun v8 => (kb v7 v8 M5)))))
def d_X9_pass_L39 (a1 : Int32) (kx1 : Int32 → Mem → Ans) : Nat → Int32 → Int32 → Mem → Ans
  | 0 => fun _ _ _ => none
  | n + 1 => fun a2 a3 M => d_X9_pass_L39_body a1 kx1 (d_X9_pass_L39 a1 kx1 n) a2 a3 M
def d_X9_pass (p1 : Int32) (M : Mem) : Ans :=
  (bd (d_X9_in p1 (1 : Int32) (200 : Int32) M) fun r2 M1 => (if r2 = 0 then (some ((-2 : Int32), M1)) else (chk (0 : Int32) 366 (if ((M1 144 ((0 : Int32)).toNatClampNeg) + p1) ≤ (9000 : Int32) then (bd (d_X9_record M1) fun r4 M3 => (d_X9_pass_L39 p1 (fun v9 M10 => (some (v9, M10))) fuelN (0 : Int32) (0 : Int32) M3)) else (some ((-4 : Int32), M1))))))
def d_X9_type (p1 : Int32) (M : Mem) : Ans :=
  (if (M 143 18) = (60 : Int32) then (some ((-3 : Int32), M)) else (chk (M 143 18) 60 (bnd (mup M 153 ((M 143 18)).toNatClampNeg (vp_nar .char p1)) fun M1 => (bnd (mup M1 143 18 ((M1 143 18) + (1 : Int32))) fun M2 => (some ((M2 143 18), M2))))))
def d_X9_clearText (M : Mem) : Ans :=
  (bnd (mup M 143 18 (0 : Int32)) fun M1 => (some ((M 143 18), M1)))
def d_X9_isDigit (M : Mem) : Ans :=
  (if (M 143 18) ≤ (M 143 20) then (some ((0 : Int32), M)) else (chk (M 143 20) 60 (bd (d_X9_in (M 153 ((M 143 20)).toNatClampNeg) (48 : Int32) (57 : Int32) M) fun r2 M1 => (if r2 = 0 then (some ((0 : Int32), M1)) else (some ((1 : Int32), M1))))))
def d_X9_takes (p1 : Int32) (M : Mem) : Ans :=
  (if (M 143 20) = (M 143 18) then (some ((0 : Int32), M)) else (chk (M 143 20) 60 (if (M 153 ((M 143 20)).toNatClampNeg) = p1 then (bnd (mup M 143 20 ((M 143 20) + (1 : Int32))) fun M1 => (some ((1 : Int32), M1))) else (some ((0 : Int32), M)))))
def d_X9_takesNumber_L37_body (a1 : Int32) (kx1 : Mem → Ans) (kb : Int32 → Mem → Ans) (a2 : Int32) (M : Mem) : Ans :=
  (if a1 ≤ a2 then (kx1 M) else (if (M 143 21) ≤ 0 then (kx1 M) else (bd (d_X9_isDigit M) fun r6 M5 => (if r6 = 0 then (kx1 M5) else (chk (M5 143 20) 60 (bnd (mup M5 143 21 ((((10 : Int32) * (M5 143 21)) + (M5 153 ((M5 143 20)).toNatClampNeg)) - (48 : Int32))) fun M7 => (bnd (mup M7 143 20 ((M7 143 20) + (1 : Int32))) fun M8 => (bnd (a2 + (1)) fun v9 => (kb v9 M8)))))))))
def d_X9_takesNumber_L37 (a1 : Int32) (kx1 : Mem → Ans) : Nat → Int32 → Mem → Ans
  | 0 => fun _ _ => none
  | n + 1 => fun a2 M => d_X9_takesNumber_L37_body a1 kx1 (d_X9_takesNumber_L37 a1 kx1 n) a2 M
def d_X9_takesNumber (p1 : Int32) (M : Mem) : Ans :=
  (bd (d_X9_isDigit M) fun r2 M1 => (if r2 = 0 then (some ((0 : Int32), M1)) else (chk (M1 143 20) 60 (bnd (mup M1 143 21 ((M1 153 ((M1 143 20)).toNatClampNeg) - (48 : Int32))) fun M3 => (bnd (mup M3 143 20 ((M3 143 20) + (1 : Int32))) fun M4 => (d_X9_takesNumber_L37 p1 (fun M10 => (some ((1 : Int32), M10))) fuelN (1 : Int32) M4))))))
def d_X9_takesBooking (M : Mem) : Ans :=
  (bd (d_X9_takesNumber (1 : Int32) M) fun r2 M1 => (if r2 = 0 then (some ((0 : Int32), M1)) else (bnd (mup M1 143 22 (M1 143 21)) fun M3 => (bd (d_X9_takes (58 : Int32) M3) fun r5 M4 => (if r5 = 0 then (some ((0 : Int32), M4)) else (bd (d_X9_takesNumber (1 : Int32) M4) fun r7 M6 => (if r7 = 0 then (some ((0 : Int32), M6)) else (bnd (mup M6 143 23 (M6 143 21)) fun M8 => (bd (d_X9_takes (64 : Int32) M8) fun r10 M9 => (if r10 = 0 then (some ((0 : Int32), M9)) else (bd (d_X9_takesNumber (4 : Int32) M9) fun r12 M11 => (if r12 = 0 then (some ((0 : Int32), M11)) else (some ((1 : Int32), M11))))))))))))))
def d_X9_bookingsOfText_B42 (kx1 : Int32 → Mem → Ans) (kb : Int32 → Int32 → Mem → Ans) (a1 : Int32) (s0 : Int32) (M : Mem) : Ans :=
  (if s0 = 0 then (kb a1 s0 M) else (bd (d_X9_takes (44 : Int32) M) fun r6 M5 => (if r6 = 0 then (some ((-5 : Int32), M5)) else (kb a1 s0 M5))))
def d_X9_bookingsOfText_L9_body (kx1 : Int32 → Mem → Ans) (kb : Int32 → Int32 → Mem → Ans) (a1 : Int32) (a2 : Int32) (M : Mem) : Ans :=
  (if a2 = 0 then (kx1 a1 M) else (bd (d_X9_takesBooking M) fun r3 M2 => (if r3 = 0 then (some ((-5 : Int32), M2)) else (bnd (a1 + (1)) fun v4 => (if (M2 143 18) ≤ (M2 143 20) then (d_X9_bookingsOfText_B42 kx1 kb v4 (0 : Int32) M2) else (d_X9_bookingsOfText_B42 kx1 kb v4 (1 : Int32) M2))))))
def d_X9_bookingsOfText_L9 (kx1 : Int32 → Mem → Ans) : Nat → Int32 → Int32 → Mem → Ans
  | 0 => fun _ _ _ => none
  | n + 1 => fun a1 a2 M => d_X9_bookingsOfText_L9_body kx1 (d_X9_bookingsOfText_L9 kx1 n) a1 a2 M
def d_X9_bookingsOfText (M : Mem) : Ans :=
  (bnd (mup M 143 20 (0 : Int32)) fun M1 => (d_X9_bookingsOfText_L9 (fun v7 M8 => (some (v7, M8))) fuelN (0 : Int32) (1 : Int32) M1))
def d_X9_trades_L2_body (kx1 : Mem → Ans) (kb : Int32 → Mem → Ans) (a1 : Int32) (M : Mem) : Ans :=
  (if (366 : Int32) ≤ a1 then (kx1 M) else (chk a1 366 (bnd (M 144 (a1).toNatClampNeg) fun v1 => (chk a1 366 (chk a1 366 (bnd (mup M 144 (a1).toNatClampNeg (M 147 (a1).toNatClampNeg)) fun M2 => (chk a1 366 (bnd (mup M2 147 (a1).toNatClampNeg v1) fun M3 => (bnd (a1 + (1)) fun v4 => (kb v4 M3))))))))))
def d_X9_trades_L2 (kx1 : Mem → Ans) : Nat → Int32 → Mem → Ans
  | 0 => fun _ _ => none
  | n + 1 => fun a1 M => d_X9_trades_L2_body kx1 (d_X9_trades_L2 kx1 n) a1 M
def d_X9_trades (M : Mem) : Ans :=
  (d_X9_trades_L2 (fun M5 => (some (0, M5))) fuelN (0 : Int32) M)
def d_X9_bookAll_L30_body (a1 : Int32) (kx1 : Mem → Ans) (kb : Int32 → Mem → Ans) (a2 : Int32) (M : Mem) : Ans :=
  (if a1 ≤ a2 then (kx1 M) else (bd (d_X9_takesBooking M) fun r7 M6 => (bnd (mup M6 143 20 ((M6 143 20) + (1 : Int32))) fun M8 => (bd (d_X9_wrong (M8 143 22) (M8 143 23) (M8 143 21) M8) fun r10 M9 => (if r10 = 0 then (bd (d_X9_adds (M9 143 22) (M9 143 23) (M9 143 21) M9) fun r12 M11 => (bnd (a2 + (1)) fun v13 => (kb v13 M11))) else (bd (d_X9_comes M9) fun r15 M14 => (some (r10, M14))))))))
def d_X9_bookAll_L30 (a1 : Int32) (kx1 : Mem → Ans) : Nat → Int32 → Mem → Ans
  | 0 => fun _ _ => none
  | n + 1 => fun a2 M => d_X9_bookAll_L30_body a1 kx1 (d_X9_bookAll_L30 a1 kx1 n) a2 M
def d_X9_bookAll (M : Mem) : Ans :=
  (bd (d_X9_bookingsOfText M) fun r2 M1 => (if r2 = (-5 : Int32) then (some (((-100 : Int32) - (M1 143 20)), M1)) else (bd (d_X9_goes M1) fun r4 M3 => (bnd (mup M3 143 20 (0 : Int32)) fun M5 => (d_X9_bookAll_L30 r2 (fun M16 => (bd (d_X9_trades M16) fun r18 M17 => (bd (d_X9_record M17) fun r20 M19 => (bd (d_X9_trades M19) fun r22 M21 => (some (r2, M21)))))) fuelN (0 : Int32) M5)))))
def d_X9_undo_L22_body (kx1 : Mem → Ans) (kb : Int32 → Mem → Ans) (a1 : Int32) (M : Mem) : Ans :=
  (if (366 : Int32) ≤ a1 then (kx1 M) else (chk (((366 : Int32) * (M 143 2)) + a1) 1464 (chk a1 366 (bnd (mup M 144 (a1).toNatClampNeg (M 145 ((((366 : Int32) * (M 143 2)) + a1)).toNatClampNeg)) fun M2 => (bnd (a1 + (1)) fun v3 => (kb v3 M2))))))
def d_X9_undo_L22 (kx1 : Mem → Ans) : Nat → Int32 → Mem → Ans
  | 0 => fun _ _ => none
  | n + 1 => fun a1 M => d_X9_undo_L22_body kx1 (d_X9_undo_L22 kx1 n) a1 M
def d_X9_undo (M : Mem) : Ans :=
  (if (M 143 2) = 0 then (some ((-5 : Int32), M)) else (bnd (mup M 143 2 ((M 143 2) - (1 : Int32))) fun M1 => (d_X9_undo_L22 (fun M4 => (some ((M4 143 2), M4))) fuelN (0 : Int32) M1)))
def d_X9_keep_L2_body (kx1 : Mem → Ans) (kb : Int32 → Mem → Ans) (a1 : Int32) (M : Mem) : Ans :=
  (if (366 : Int32) ≤ a1 then (kx1 M) else (chk a1 366 (chk a1 366 (bnd (mup M 146 (a1).toNatClampNeg (M 144 (a1).toNatClampNeg)) fun M1 => (bnd (a1 + (1)) fun v2 => (kb v2 M1))))))
def d_X9_keep_L2 (kx1 : Mem → Ans) : Nat → Int32 → Mem → Ans
  | 0 => fun _ _ => none
  | n + 1 => fun a1 M => d_X9_keep_L2_body kx1 (d_X9_keep_L2 kx1 n) a1 M
def d_X9_keep (M : Mem) : Ans :=
  (d_X9_keep_L2 (fun M3 => (bnd (mup M3 143 4 (1 : Int32)) fun M4 => (chk (0 : Int32) 366 (some ((M4 144 ((0 : Int32)).toNatClampNeg), M4))))) fuelN (0 : Int32) M)
def d_X9_restore_L16_body (kx1 : Mem → Ans) (kb : Int32 → Mem → Ans) (a1 : Int32) (M : Mem) : Ans :=
  (if (366 : Int32) ≤ a1 then (kx1 M) else (chk a1 366 (chk a1 366 (bnd (mup M 144 (a1).toNatClampNeg (M 146 (a1).toNatClampNeg)) fun M3 => (bnd (a1 + (1)) fun v4 => (kb v4 M3))))))
def d_X9_restore_L16 (kx1 : Mem → Ans) : Nat → Int32 → Mem → Ans
  | 0 => fun _ _ => none
  | n + 1 => fun a1 M => d_X9_restore_L16_body kx1 (d_X9_restore_L16 kx1 n) a1 M
def d_X9_restore (M : Mem) : Ans :=
  (if (M 143 4) = 0 then (some ((-5 : Int32), M)) else (bd (d_X9_record M) fun r2 M1 => (d_X9_restore_L16 (fun M5 => (chk (0 : Int32) 366 (some ((M5 144 ((0 : Int32)).toNatClampNeg), M5)))) fuelN (0 : Int32) M1)))
def d_X9_bookings_B70 (kx1 : Int32 → Mem → Ans) (kb : Int32 → Int32 → Mem → Ans) (a1 : Int32) (a2 : Int32) (a3 : Int32) (a4 : Int32) (a6 : Int32) (s0 : Int32) (s1 : Int32) (M : Mem) : Ans :=
  (bnd (s1 + s0) fun v5 => (bnd (a6 + (1)) fun v6 => (kb v5 v6 M)))
def d_X9_bookings_B69 (kx1 : Int32 → Mem → Ans) (kb : Int32 → Int32 → Mem → Ans) (a1 : Int32) (a2 : Int32) (a3 : Int32) (a4 : Int32) (a6 : Int32) (s0 : Int32) (M : Mem) : Ans :=
  (d_X9_bookings_B70 kx1 kb a1 a2 a3 a4 a6 (0 : Int32) s0 M)
def d_X9_bookings_B49 (kx1 : Int32 → Mem → Ans) (kb : Int32 → Int32 → Mem → Ans) (a1 : Int32) (a2 : Int32) (a3 : Int32) (a4 : Int32) (a6 : Int32) (s0 : Int32) (M : Mem) : Ans :=
  (bd (d_X9_of a6 (3 : Int32) M) fun r2 M1 => (bd (d_X9_in r2 a3 a4 M1) fun r4 M3 => (if r4 = 0 then (d_X9_bookings_B69 kx1 kb a1 a2 a3 a4 a6 s0 M3) else (d_X9_bookings_B70 kx1 kb a1 a2 a3 a4 a6 (1 : Int32) s0 M3))))
def d_X9_bookings_B34 (kx1 : Int32 → Mem → Ans) (kb : Int32 → Int32 → Mem → Ans) (a1 : Int32) (a2 : Int32) (a3 : Int32) (a4 : Int32) (a6 : Int32) (s0 : Int32) (M : Mem) : Ans :=
  (if a2 < 0 then (d_X9_bookings_B49 kx1 kb a1 a2 a3 a4 a6 s0 M) else (bd (d_X9_of a6 (1 : Int32) M) fun r8 M7 => (if r8 = a2 then (d_X9_bookings_B49 kx1 kb a1 a2 a3 a4 a6 s0 M7) else (d_X9_bookings_B69 kx1 kb a1 a2 a3 a4 a6 s0 M7))))
def d_X9_bookings_L6_body (a1 : Int32) (a2 : Int32) (a3 : Int32) (a4 : Int32) (kx1 : Int32 → Mem → Ans) (kb : Int32 → Int32 → Mem → Ans) (a5 : Int32) (a6 : Int32) (M : Mem) : Ans :=
  (chk (5 : Int32) 366 (if (M 144 ((5 : Int32)).toNatClampNeg) ≤ a6 then (kx1 a5 M) else (if a1 < 0 then (d_X9_bookings_B34 kx1 kb a1 a2 a3 a4 a6 a5 M) else (bd (d_X9_of a6 (0 : Int32) M) fun r10 M9 => (if r10 = a1 then (d_X9_bookings_B34 kx1 kb a1 a2 a3 a4 a6 a5 M9) else (d_X9_bookings_B69 kx1 kb a1 a2 a3 a4 a6 a5 M9))))))
def d_X9_bookings_L6 (a1 : Int32) (a2 : Int32) (a3 : Int32) (a4 : Int32) (kx1 : Int32 → Mem → Ans) : Nat → Int32 → Int32 → Mem → Ans
  | 0 => fun _ _ _ => none
  | n + 1 => fun a5 a6 M => d_X9_bookings_L6_body a1 a2 a3 a4 kx1 (d_X9_bookings_L6 a1 a2 a3 a4 kx1 n) a5 a6 M
def d_X9_bookings (p1 : Int32) (p2 : Int32) (p3 : Int32) (p4 : Int32) (M : Mem) : Ans :=
  (d_X9_bookings_L6 p1 p2 p3 p4 (fun v11 M12 => (some (v11, M12))) fuelN (0 : Int32) (0 : Int32) M)
def d_X9_recipe (p1 : Int32) (p2 : Int32) (M : Mem) : Ans :=
  (bd (d_X9_noRecipe p1 M) fun r2 M1 => (if r2 = 0 then (bd (d_X9_in p2 (0 : Int32) (3 : Int32) M1) fun r4 M3 => (if r4 = 0 then (if p2 = (4 : Int32) then (bd (d_X9_bookings (-1 : Int32) p1 (2 : Int32) (2 : Int32) M3) fun r6 M5 => (some (r6, M5))) else (some ((-2 : Int32), M3))) else (bd (d_X9_ofRecipe p1 p2 M3) fun r8 M7 => (some (r8, M7))))) else (some ((-1 : Int32), M1))))
def d_X9_robot_L85_body (a1 : Int32) (kx1 : Int32 → Mem → Ans) (kb : Int32 → Mem → Ans) (a3 : Int32) (M : Mem) : Ans :=
  (bd (d_X9_keeper a1 a3 a3 (-1 : Int32) M) fun r14 M13 => (if r14 = (-5 : Int32) then (kx1 a3 M13) else (bnd (a3 + (1)) fun v15 => (kb v15 M13))))
def d_X9_robot_L85 (a1 : Int32) (kx1 : Int32 → Mem → Ans) : Nat → Int32 → Mem → Ans
  | 0 => fun _ _ => none
  | n + 1 => fun a3 M => d_X9_robot_L85_body a1 kx1 (d_X9_robot_L85 a1 kx1 n) a3 M
def d_X9_robot (p1 : Int32) (p2 : Int32) (M : Mem) : Ans :=
  (bd (d_X9_noRobot p1 M) fun r2 M1 => (if r2 = 0 then (chk (0 : Int32) 366 (bnd (M1 144 ((0 : Int32)).toNatClampNeg) fun v3 => (if p2 = (0) then (bd (d_X9_bookings p1 (-1 : Int32) (0 : Int32) (1 : Int32) M1) fun r5 M4 => (some (r5, M4))) else (if p2 = (1) then (bd (d_X9_bookings p1 (-1 : Int32) (2 : Int32) (2 : Int32) M1) fun r8 M7 => (some (r8, M7))) else (if p2 = (2) then (bd (d_X9_keeper p1 v3 v3 (-1 : Int32) M1) fun r11 M10 => (if r11 = (-5 : Int32) then (some ((0 : Int32), M10)) else (some ((1 : Int32), M10)))) else (if p2 = (3) then (d_X9_robot_L85 p1 (fun v16 M17 => (some (v16, M17))) fuelN v3 M1) else (some ((-2 : Int32), M1)))))))) else (some ((-1 : Int32), M1))))
def d_X9_booking (p1 : Int32) (p2 : Int32) (M : Mem) : Ans :=
  (bd (d_X9_noBooking p1 M) fun r2 M1 => (if r2 = 0 then (bd (d_X9_in p2 (0 : Int32) (4 : Int32) M1) fun r4 M3 => (if r4 = 0 then (bd (d_X9_forecast M3) fun r6 M5 => (if p2 = (5) then (chk p1 61 (some ((M5 148 (p1).toNatClampNeg), M5))) else (if p2 = (6) then (chk p1 61 (if (M5 149 (p1).toNatClampNeg) ≤ 0 then (some ((-5 : Int32), M5)) else (chk p1 61 (some ((M5 149 (p1).toNatClampNeg), M5))))) else (if p2 = (7) then (bd (d_X9_isOpen p1 M5) fun r10 M9 => (if r10 = 0 then (some ((-5 : Int32), M9)) else (chk p1 61 (some (((10000 : Int32) + (M9 150 (p1).toNatClampNeg)), M9))))) else (some ((-2 : Int32), M5)))))) else (bd (d_X9_of p1 p2 M3) fun r13 M12 => (some (r13, M12))))) else (some ((-1 : Int32), M1))))
def d_X9_wishTold (p1 : Int32) (p2 : Int32) (M : Mem) : Ans :=
  (chk (6 : Int32) 366 (bd (d_X9_in p1 (0 : Int32) ((M 144 ((6 : Int32)).toNatClampNeg) - (1 : Int32)) M) fun r2 M1 => (if r2 = 0 then (some ((-1 : Int32), M1)) else (bd (d_X9_in p2 (0 : Int32) (2 : Int32) M1) fun r4 M3 => (if r4 = 0 then (if p2 = (3 : Int32) then (bd (d_X9_bases (-1 : Int32) M3) fun r6 M5 => (bd (d_X9_ofWish p1 (0 : Int32) M5) fun r8 M7 => (bd (d_X9_ofWish p1 (1 : Int32) M7) fun r10 M9 => (bd (d_X9_ofWish p1 (2 : Int32) M9) fun r12 M11 => (bd (d_X9_ofWish p1 (2 : Int32) M11) fun r14 M13 => (bd (d_X9_first r8 r10 r12 (r14 + (20 : Int32)) (-1 : Int32) M13) fun r16 M15 => (some (r16, M15)))))))) else (some ((-2 : Int32), M3))) else (bd (d_X9_ofWish p1 p2 M3) fun r18 M17 => (some (r18, M17))))))))
def d_X9_pressureIn_L20_body (a1 : Int32) (kx1 : Mem → Ans) (kb : Int32 → Mem → Ans) (a2 : Int32) (M : Mem) : Ans :=
  (if a1 < a2 then (kx1 M) else (chk (0 : Int32) 366 (bd (d_X9_foresees ((M 144 ((0 : Int32)).toNatClampNeg) + a2) M) fun r6 M5 => (bnd (a2 + (1)) fun v7 => (kb v7 M5)))))
def d_X9_pressureIn_L20 (a1 : Int32) (kx1 : Mem → Ans) : Nat → Int32 → Mem → Ans
  | 0 => fun _ _ => none
  | n + 1 => fun a2 M => d_X9_pressureIn_L20_body a1 kx1 (d_X9_pressureIn_L20 a1 kx1 n) a2 M
def d_X9_pressureIn (p1 : Int32) (M : Mem) : Ans :=
  (bd (d_X9_in p1 (0 : Int32) (200 : Int32) M) fun r2 M1 => (if r2 = 0 then (some ((-2 : Int32), M1)) else (bd (d_X9_begins M1) fun r4 M3 => (d_X9_pressureIn_L20 p1 (fun M8 => (some ((M8 143 10), M8))) fuelN (1 : Int32) M3))))
def d_X9_lowestIn_B56 (kx1 : Int32 → Mem → Ans) (kb : Int32 → Int32 → Mem → Ans) (a1 : Int32) (a3 : Int32) (s0 : Int32) (M : Mem) : Ans :=
  (bnd (a3 + (1)) fun v7 => (kb s0 v7 M))
def d_X9_lowestIn_L23_body (a1 : Int32) (kx1 : Int32 → Mem → Ans) (kb : Int32 → Int32 → Mem → Ans) (a2 : Int32) (a3 : Int32) (M : Mem) : Ans :=
  (if a1 < a3 then (kx1 a2 M) else (chk (0 : Int32) 366 (bd (d_X9_foresees ((M 144 ((0 : Int32)).toNatClampNeg) + a3) M) fun r6 M5 => (if a2 ≤ (M5 143 10) then (d_X9_lowestIn_B56 kx1 kb a1 a3 a2 M5) else (d_X9_lowestIn_B56 kx1 kb a1 a3 (M5 143 10) M5)))))
def d_X9_lowestIn_L23 (a1 : Int32) (kx1 : Int32 → Mem → Ans) : Nat → Int32 → Int32 → Mem → Ans
  | 0 => fun _ _ _ => none
  | n + 1 => fun a2 a3 M => d_X9_lowestIn_L23_body a1 kx1 (d_X9_lowestIn_L23 a1 kx1 n) a2 a3 M
def d_X9_lowestIn (p1 : Int32) (M : Mem) : Ans :=
  (bd (d_X9_in p1 (1 : Int32) (200 : Int32) M) fun r2 M1 => (if r2 = 0 then (some ((-2 : Int32), M1)) else (bd (d_X9_begins M1) fun r4 M3 => (d_X9_lowestIn_L23 p1 (fun v8 M9 => (some (v8, M9))) fuelN (99999 : Int32) (1 : Int32) M3))))
def d_X9_why (p1 : Int32) (p2 : Int32) (p3 : Int32) (p4 : Int32) (M : Mem) : Ans :=
  (bd (d_X9_noRobot p1 M) fun r2 M1 => (if r2 = 0 then (bd (d_X9_noRecipe p2 M1) fun r4 M3 => (if r4 = 0 then (bd (d_X9_isStart p3 M3) fun r6 M5 => (if r6 = 0 then (some ((-2 : Int32), M5)) else (bd (d_X9_in p4 (0 : Int32) (2 : Int32) M5) fun r8 M7 => (if r8 = 0 then (some ((-2 : Int32), M7)) else (bd (d_X9_bases (-1 : Int32) M7) fun r10 M9 => (bd (d_X9_reason p1 p2 p3 (-1 : Int32) M9) fun r12 M11 => (if p4 = 0 then (some (r12, M11)) else (if r12 = (1 : Int32) then (if p4 = (1 : Int32) then (bd (d_X9_last p2 p3 M11) fun r14 M13 => (bd (d_X9_keeper p1 p3 r14 (-1 : Int32) M13) fun r16 M15 => (some (r16, M15)))) else (some ((-5 : Int32), M11))) else (if r12 = (2 : Int32) then (if p4 = (2 : Int32) then (chk (60 : Int32) 61 (some ((M11 149 ((60 : Int32)).toNatClampNeg), M11))) else (some ((-5 : Int32), M11))) else (if r12 = 0 then (some ((-5 : Int32), M11)) else (if p4 = (1 : Int32) then (some ((M11 143 16), M11)) else (chk (M11 143 16) 61 (some ((M11 149 ((M11 143 16)).toNatClampNeg), M11)))))))))))))) else (some ((-1 : Int32), M3)))) else (some ((-1 : Int32), M1))))
def d_X9_earliest (p1 : Int32) (p2 : Int32) (p3 : Int32) (M : Mem) : Ans :=
  (bd (d_X9_noRobot p1 M) fun r2 M1 => (if r2 = 0 then (bd (d_X9_noRecipe p2 M1) fun r4 M3 => (if r4 = 0 then (bd (d_X9_isStart p3 M3) fun r6 M5 => (if r6 = 0 then (some ((-2 : Int32), M5)) else (bd (d_X9_bases (-1 : Int32) M5) fun r8 M7 => (chk (0 : Int32) 366 (bd (d_X9_first p1 p2 p3 ((M7 144 ((0 : Int32)).toNatClampNeg) + (60 : Int32)) (-1 : Int32) M7) fun r10 M9 => (some (r10, M9))))))) else (some ((-1 : Int32), M3)))) else (some ((-1 : Int32), M1))))
def d_X9_count_B130 (a1 : Int32) (M : Mem) : Ans :=
  (bd (d_X9_bookings (-1 : Int32) (-1 : Int32) (a1 - (6 : Int32)) (a1 - (6 : Int32)) M) fun r8 M7 => (some (r8, M7)))
def d_X9_count (p1 : Int32) (M : Mem) : Ans :=
  (if p1 = (0) then (chk (0 : Int32) 366 (some ((M 144 ((0 : Int32)).toNatClampNeg), M))) else (if p1 = (1) then (chk (1 : Int32) 366 (some ((M 144 ((1 : Int32)).toNatClampNeg), M))) else (if p1 = (2) then (chk (2 : Int32) 366 (some ((M 144 ((2 : Int32)).toNatClampNeg), M))) else (if p1 = (3) then (chk (3 : Int32) 366 (some ((M 144 ((3 : Int32)).toNatClampNeg), M))) else (if p1 = (4) then (chk (4 : Int32) 366 (some ((M 144 ((4 : Int32)).toNatClampNeg), M))) else (if p1 = (5) then (chk (5 : Int32) 366 (some ((M 144 ((5 : Int32)).toNatClampNeg), M))) else (if p1 = (6) then (d_X9_count_B130 p1 M) else (if p1 = (7) then (d_X9_count_B130 p1 M) else (if p1 = (8) then (d_X9_count_B130 p1 M) else (if p1 = (9) then (d_X9_count_B130 p1 M) else (if p1 = (10) then (d_X9_count_B130 p1 M) else (if p1 = (11) then (bd (d_X9_doomed M) fun r15 M14 => (some (r15, M14))) else (if p1 = (12) then (chk (6 : Int32) 366 (some ((M 144 ((6 : Int32)).toNatClampNeg), M))) else (if p1 = (13) then (chk (7 : Int32) 366 (some ((M 144 ((7 : Int32)).toNatClampNeg), M))) else (if p1 = (14) then (chk (8 : Int32) 366 (some ((M 144 ((8 : Int32)).toNatClampNeg), M))) else (if p1 = (15) then (chk (9 : Int32) 366 (some ((M 144 ((9 : Int32)).toNatClampNeg), M))) else (if p1 = (16) then (some ((M 143 2), M)) else (if p1 = (17) then (some ((M 143 18), M)) else (some ((-2 : Int32), M))))))))))))))))))))
end
section
theorem dX0_has_0 : decode cX0_has 0 = .ok (.iload_n 1, 1) := by decide +kernel
theorem dX0_has_1 : decode cX0_has 1 = .ok (.ifCond .lt 15, 3) := by decide +kernel
theorem dX0_has_4 : decode cX0_has 4 = .ok (.iload_n 1, 1) := by decide +kernel
theorem dX0_has_5 : decode cX0_has 5 = .ok (.aload_n 0, 1) := by decide +kernel
theorem dX0_has_6 : decode cX0_has 6 = .ok (.getfield 27, 3) := by decide +kernel
theorem dX0_has_9 : decode cX0_has 9 = .ok (.if_icmp .ge 7, 3) := by decide +kernel
theorem dX0_has_12 : decode cX0_has 12 = .ok (.iconst 1, 1) := by decide +kernel
theorem dX0_has_13 : decode cX0_has 13 = .ok (.goto 4, 3) := by decide +kernel
theorem dX0_has_16 : decode cX0_has 16 = .ok (.iconst 0, 1) := by decide +kernel
theorem dX0_has_17 : decode cX0_has 17 = .ok (.ireturn, 1) := by decide +kernel
abbrev rX0_has : Room := { frames := 0, cells := 0, slots := 0, locals := 0 }
set_option maxRecDepth 20000 in
theorem c_X0_has (l : Launch) (y : Cy) (hy : Inj y) (q0 : Nat) (hq0 : q0 < 7) (p1 : Int32) (M : Mem) : CT l y yX0_has cX0_has 2 (some .boolean) rX0_has [.ref (y.2.1 (sI q0 6)), .int p1] M (d_X0_has q0 p1 M) := by
  refine CT_of (by decide) hy (Nat.le_of_ble_eq_true rfl) (fun x hxl h => ?_)
  show G x y 0 [(0, .ref (y.2.1 (sI q0 6))), (1, .int p1)] [] M _
  unfold d_X0_has
  refine G_iload_n (pc := 0) h.1 dX0_has_0 rfl 1 rfl ?_
  refine G_if_lt (pc := 1) (tgt := 16) h.1 dX0_has_1 (by decide) ?_ ?_
  · refine G_iconst (pc := 16) (v := (0)) h.1 dX0_has_16 (by decide) ?_
    exact G_ret (pc := 17) h rfl dX0_has_17
  · refine G_iload_n (pc := 4) h.1 dX0_has_4 rfl 1 rfl ?_
    refine G_aload_n (pc := 5) h.1 dX0_has_5 rfl 0 rfl ?_
    refine G_get (pc := 6) (v := .int (M (sI q0 6) 0)) h.1 fl_X0_27 (ids_s hq0 6 (by decide)) (eS6 hq0 _) rfl dX0_has_6 ?_
    refine G_icmp_ge (pc := 9) (tgt := 16) h.1 dX0_has_9 (by decide) ?_ ?_
    · refine G_iconst (pc := 16) (v := (0)) h.1 dX0_has_16 (by decide) ?_
      exact G_ret (pc := 17) h rfl dX0_has_17
    · refine G_iconst (pc := 12) (v := (1)) h.1 dX0_has_12 (by decide) ?_
      refine G_goto (pc := 13) (tgt := 17) h.1 dX0_has_13 (by decide) ?_
      exact G_ret (pc := 17) h rfl dX0_has_17
theorem dX0_append_0 : decode cX0_append 0 = .ok (.aload_n 0, 1) := by decide +kernel
theorem dX0_append_1 : decode cX0_append 1 = .ok (.getfield 27, 3) := by decide +kernel
theorem dX0_append_4 : decode cX0_append 4 = .ok (.bipush 60, 2) := by decide +kernel
theorem dX0_append_6 : decode cX0_append 6 = .ok (.if_icmp .lt 6, 3) := by decide +kernel
theorem dX0_append_9 : decode cX0_append 9 = .ok (.bipush (-3), 2) := by decide +kernel
theorem dX0_append_11 : decode cX0_append 11 = .ok (.ireturn, 1) := by decide +kernel
theorem dX0_append_12 : decode cX0_append 12 = .ok (.aload_n 0, 1) := by decide +kernel
theorem dX0_append_13 : decode cX0_append 13 = .ok (.getfield 9, 3) := by decide +kernel
theorem dX0_append_16 : decode cX0_append 16 = .ok (.aload_n 0, 1) := by decide +kernel
theorem dX0_append_17 : decode cX0_append 17 = .ok (.getfield 27, 3) := by decide +kernel
theorem dX0_append_20 : decode cX0_append 20 = .ok (.iload_n 1, 1) := by decide +kernel
theorem dX0_append_21 : decode cX0_append 21 = .ok (.iastore, 1) := by decide +kernel
theorem dX0_append_22 : decode cX0_append 22 = .ok (.aload_n 0, 1) := by decide +kernel
theorem dX0_append_23 : decode cX0_append 23 = .ok (.getfield 15, 3) := by decide +kernel
theorem dX0_append_26 : decode cX0_append 26 = .ok (.aload_n 0, 1) := by decide +kernel
theorem dX0_append_27 : decode cX0_append 27 = .ok (.getfield 27, 3) := by decide +kernel
theorem dX0_append_30 : decode cX0_append 30 = .ok (.iload_n 2, 1) := by decide +kernel
theorem dX0_append_31 : decode cX0_append 31 = .ok (.iastore, 1) := by decide +kernel
theorem dX0_append_32 : decode cX0_append 32 = .ok (.aload_n 0, 1) := by decide +kernel
theorem dX0_append_33 : decode cX0_append 33 = .ok (.getfield 18, 3) := by decide +kernel
theorem dX0_append_36 : decode cX0_append 36 = .ok (.aload_n 0, 1) := by decide +kernel
theorem dX0_append_37 : decode cX0_append 37 = .ok (.getfield 27, 3) := by decide +kernel
theorem dX0_append_40 : decode cX0_append 40 = .ok (.iload_n 3, 1) := by decide +kernel
theorem dX0_append_41 : decode cX0_append 41 = .ok (.iastore, 1) := by decide +kernel
theorem dX0_append_42 : decode cX0_append 42 = .ok (.aload_n 0, 1) := by decide +kernel
theorem dX0_append_43 : decode cX0_append 43 = .ok (.getfield 21, 3) := by decide +kernel
theorem dX0_append_46 : decode cX0_append 46 = .ok (.aload_n 0, 1) := by decide +kernel
theorem dX0_append_47 : decode cX0_append 47 = .ok (.getfield 27, 3) := by decide +kernel
theorem dX0_append_50 : decode cX0_append 50 = .ok (.iconst 0, 1) := by decide +kernel
theorem dX0_append_51 : decode cX0_append 51 = .ok (.iastore, 1) := by decide +kernel
theorem dX0_append_52 : decode cX0_append 52 = .ok (.aload_n 0, 1) := by decide +kernel
theorem dX0_append_53 : decode cX0_append 53 = .ok (.getfield 24, 3) := by decide +kernel
theorem dX0_append_56 : decode cX0_append 56 = .ok (.aload_n 0, 1) := by decide +kernel
theorem dX0_append_57 : decode cX0_append 57 = .ok (.getfield 27, 3) := by decide +kernel
theorem dX0_append_60 : decode cX0_append 60 = .ok (.iconst 0, 1) := by decide +kernel
theorem dX0_append_61 : decode cX0_append 61 = .ok (.iastore, 1) := by decide +kernel
theorem dX0_append_62 : decode cX0_append 62 = .ok (.aload_n 0, 1) := by decide +kernel
theorem dX0_append_63 : decode cX0_append 63 = .ok (.dup, 1) := by decide +kernel
theorem dX0_append_64 : decode cX0_append 64 = .ok (.getfield 27, 3) := by decide +kernel
theorem dX0_append_67 : decode cX0_append 67 = .ok (.iconst 1, 1) := by decide +kernel
theorem dX0_append_68 : decode cX0_append 68 = .ok (.iadd, 1) := by decide +kernel
theorem dX0_append_69 : decode cX0_append 69 = .ok (.putfield 27, 3) := by decide +kernel
theorem dX0_append_72 : decode cX0_append 72 = .ok (.aload_n 0, 1) := by decide +kernel
theorem dX0_append_73 : decode cX0_append 73 = .ok (.getfield 27, 3) := by decide +kernel
theorem dX0_append_76 : decode cX0_append 76 = .ok (.iconst 1, 1) := by decide +kernel
theorem dX0_append_77 : decode cX0_append 77 = .ok (.isub, 1) := by decide +kernel
theorem dX0_append_78 : decode cX0_append 78 = .ok (.ireturn, 1) := by decide +kernel
abbrev rX0_append : Room := { frames := 0, cells := 0, slots := 0, locals := 0 }
set_option maxRecDepth 20000 in
theorem c_X0_append (l : Launch) (y : Cy) (hy : Inj y) (q0 : Nat) (hq0 : q0 < 7) (p1 : Int32) (p2 : Int32) (p3 : Int32) (M : Mem) : CT l y yX0_append cX0_append 4 (some .int) rX0_append [.ref (y.2.1 (sI q0 6)), .int p1, .int p2, .int p3] M (d_X0_append q0 p1 p2 p3 M) := by
  refine CT_of (by decide) hy (Nat.le_of_ble_eq_true rfl) (fun x hxl h => ?_)
  show G x y 0 [(0, .ref (y.2.1 (sI q0 6))), (1, .int p1), (2, .int p2), (3, .int p3)] [] M _
  unfold d_X0_append
  refine G_aload_n (pc := 0) h.1 dX0_append_0 rfl 0 rfl ?_
  refine G_get (pc := 1) (v := .int (M (sI q0 6) 0)) h.1 fl_X0_27 (ids_s hq0 6 (by decide)) (eS6 hq0 _) rfl dX0_append_1 ?_
  refine G_bipush (pc := 4) (v := (60)) h.1 dX0_append_4 (by decide) ?_
  refine G_icmp_lt (pc := 6) (tgt := 12) h.1 dX0_append_6 (by decide) ?_ ?_
  · refine G_aload_n (pc := 12) h.1 dX0_append_12 rfl 0 rfl ?_
    refine G_get (pc := 13) (v := .ref (y.2.1 (sI q0 7))) h.1 fl_X0_9 (ids_s hq0 6 (by decide)) (eS6 hq0 _) rfl dX0_append_13 ?_
    refine G_aload_n (pc := 16) h.1 dX0_append_16 rfl 0 rfl ?_
    refine G_get (pc := 17) (v := .int (M (sI q0 6) 0)) h.1 fl_X0_27 (ids_s hq0 6 (by decide)) (eS6 hq0 _) rfl dX0_append_17 ?_
    refine G_iload_n (pc := 20) h.1 dX0_append_20 rfl 1 rfl ?_
    refine G_iast (pc := 21) h.1 (ids_s hq0 7 (by decide)) (fun m => eS7 hq0 m) dX0_append_21 (fun M1 => ?_)
    refine G_aload_n (pc := 22) h.1 dX0_append_22 rfl 0 rfl ?_
    refine G_get (pc := 23) (v := .ref (y.2.1 (sI q0 8))) h.1 fl_X0_15 (ids_s hq0 6 (by decide)) (eS6 hq0 _) rfl dX0_append_23 ?_
    refine G_aload_n (pc := 26) h.1 dX0_append_26 rfl 0 rfl ?_
    refine G_get (pc := 27) (v := .int (M1 (sI q0 6) 0)) h.1 fl_X0_27 (ids_s hq0 6 (by decide)) (eS6 hq0 _) rfl dX0_append_27 ?_
    refine G_iload_n (pc := 30) h.1 dX0_append_30 rfl 2 rfl ?_
    refine G_iast (pc := 31) h.1 (ids_s hq0 8 (by decide)) (fun m => eS8 hq0 m) dX0_append_31 (fun M2 => ?_)
    refine G_aload_n (pc := 32) h.1 dX0_append_32 rfl 0 rfl ?_
    refine G_get (pc := 33) (v := .ref (y.2.1 (sI q0 9))) h.1 fl_X0_18 (ids_s hq0 6 (by decide)) (eS6 hq0 _) rfl dX0_append_33 ?_
    refine G_aload_n (pc := 36) h.1 dX0_append_36 rfl 0 rfl ?_
    refine G_get (pc := 37) (v := .int (M2 (sI q0 6) 0)) h.1 fl_X0_27 (ids_s hq0 6 (by decide)) (eS6 hq0 _) rfl dX0_append_37 ?_
    refine G_iload_n (pc := 40) h.1 dX0_append_40 rfl 3 rfl ?_
    refine G_iast (pc := 41) h.1 (ids_s hq0 9 (by decide)) (fun m => eS9 hq0 m) dX0_append_41 (fun M3 => ?_)
    refine G_aload_n (pc := 42) h.1 dX0_append_42 rfl 0 rfl ?_
    refine G_get (pc := 43) (v := .ref (y.2.1 (sI q0 10))) h.1 fl_X0_21 (ids_s hq0 6 (by decide)) (eS6 hq0 _) rfl dX0_append_43 ?_
    refine G_aload_n (pc := 46) h.1 dX0_append_46 rfl 0 rfl ?_
    refine G_get (pc := 47) (v := .int (M3 (sI q0 6) 0)) h.1 fl_X0_27 (ids_s hq0 6 (by decide)) (eS6 hq0 _) rfl dX0_append_47 ?_
    refine G_iconst (pc := 50) (v := (0)) h.1 dX0_append_50 (by decide) ?_
    refine G_iast (pc := 51) h.1 (ids_s hq0 10 (by decide)) (fun m => eS10 hq0 m) dX0_append_51 (fun M4 => ?_)
    refine G_aload_n (pc := 52) h.1 dX0_append_52 rfl 0 rfl ?_
    refine G_get (pc := 53) (v := .ref (y.2.1 (sI q0 11))) h.1 fl_X0_24 (ids_s hq0 6 (by decide)) (eS6 hq0 _) rfl dX0_append_53 ?_
    refine G_aload_n (pc := 56) h.1 dX0_append_56 rfl 0 rfl ?_
    refine G_get (pc := 57) (v := .int (M4 (sI q0 6) 0)) h.1 fl_X0_27 (ids_s hq0 6 (by decide)) (eS6 hq0 _) rfl dX0_append_57 ?_
    refine G_iconst (pc := 60) (v := (0)) h.1 dX0_append_60 (by decide) ?_
    refine G_iast (pc := 61) h.1 (ids_s hq0 11 (by decide)) (fun m => eS11 hq0 m) dX0_append_61 (fun M5 => ?_)
    refine G_aload_n (pc := 62) h.1 dX0_append_62 rfl 0 rfl ?_
    refine G_dup (pc := 63) h.1 dX0_append_63 rfl ?_
    refine G_get (pc := 64) (v := .int (M5 (sI q0 6) 0)) h.1 fl_X0_27 (ids_s hq0 6 (by decide)) (eS6 hq0 _) rfl dX0_append_64 ?_
    refine G_iconst (pc := 67) (v := (1)) h.1 dX0_append_67 (by decide) ?_
    refine G_iadd (pc := 68) h.1 dX0_append_68 ?_
    refine G_put (pc := 69) h.1 fp_X0_27 (ids_s hq0 6 (by decide)) (fun m => eS6 hq0 m) (fun _ => rfl) (fun _ => Nat.le_of_ble_eq_true rfl) rfl rfl dX0_append_69 (fun M6 => ?_)
    refine G_aload_n (pc := 72) h.1 dX0_append_72 rfl 0 rfl ?_
    refine G_get (pc := 73) (v := .int (M6 (sI q0 6) 0)) h.1 fl_X0_27 (ids_s hq0 6 (by decide)) (eS6 hq0 _) rfl dX0_append_73 ?_
    refine G_iconst (pc := 76) (v := (1)) h.1 dX0_append_76 (by decide) ?_
    refine G_isub (pc := 77) h.1 dX0_append_77 ?_
    exact G_ret (pc := 78) h rfl dX0_append_78
  · refine G_bipush (pc := 9) (v := (-3)) h.1 dX0_append_9 (by decide) ?_
    exact G_ret (pc := 11) h rfl dX0_append_11
theorem dX0_stateOf_0 : decode cX0_stateOf 0 = .ok (.aload_n 0, 1) := by decide +kernel
theorem dX0_stateOf_1 : decode cX0_stateOf 1 = .ok (.iload_n 1, 1) := by decide +kernel
theorem dX0_stateOf_2 : decode cX0_stateOf 2 = .ok (.invokevirtual 31, 3) := by decide +kernel
theorem dX0_stateOf_5 : decode cX0_stateOf 5 = .ok (.ifCond .eq 12, 3) := by decide +kernel
theorem dX0_stateOf_8 : decode cX0_stateOf 8 = .ok (.aload_n 0, 1) := by decide +kernel
theorem dX0_stateOf_9 : decode cX0_stateOf 9 = .ok (.getfield 21, 3) := by decide +kernel
theorem dX0_stateOf_12 : decode cX0_stateOf 12 = .ok (.iload_n 1, 1) := by decide +kernel
theorem dX0_stateOf_13 : decode cX0_stateOf 13 = .ok (.iaload, 1) := by decide +kernel
theorem dX0_stateOf_14 : decode cX0_stateOf 14 = .ok (.goto 4, 3) := by decide +kernel
theorem dX0_stateOf_17 : decode cX0_stateOf 17 = .ok (.iconst (-1), 1) := by decide +kernel
theorem dX0_stateOf_18 : decode cX0_stateOf 18 = .ok (.ireturn, 1) := by decide +kernel
abbrev rX0_stateOf : Room := { frames := 1, cells := 0, slots := 0, locals := 21 }
set_option maxRecDepth 20000 in
theorem c_X0_stateOf (l : Launch) (y : Cy) (hy : Inj y) (q0 : Nat) (hq0 : q0 < 7) (p1 : Int32) (M : Mem) : CT l y yX0_stateOf cX0_stateOf 2 (some .int) rX0_stateOf [.ref (y.2.1 (sI q0 6)), .int p1] M (d_X0_stateOf q0 p1 M) := by
  refine CT_of (by decide) hy (Nat.le_of_ble_eq_true rfl) (fun x hxl h => ?_)
  show G x y 0 [(0, .ref (y.2.1 (sI q0 6))), (1, .int p1)] [] M _
  unfold d_X0_stateOf
  refine G_aload_n (pc := 0) h.1 dX0_stateOf_0 rfl 0 rfl ?_
  refine G_iload_n (pc := 1) h.1 dX0_stateOf_1 rfl 1 rfl ?_
  refine G_callV (pc := 2) (As := [.int p1]) (rest := []) h.1 h.2.2.1 lk_X0_31 (ids_s hq0 6 (by decide)) (eS6 hq0 _) rfl rfl (c_X0_has x.1.2.1 y hy q0 hq0 p1 M) rfl rfl (Nat.le_of_ble_eq_true rfl) ⟨rfl, rfl, Nat.le_of_ble_eq_true rfl, Nat.le_of_ble_eq_true rfl⟩ dX0_stateOf_2 (fun r2 M1 => ?_)
  refine G_if_eq (pc := 5) (tgt := 17) h.1 dX0_stateOf_5 (by decide) ?_ ?_
  · refine G_iconst (pc := 17) (v := (-1)) h.1 dX0_stateOf_17 (by decide) ?_
    exact G_ret (pc := 18) h rfl dX0_stateOf_18
  · refine G_aload_n (pc := 8) h.1 dX0_stateOf_8 rfl 0 rfl ?_
    refine G_get (pc := 9) (v := .ref (y.2.1 (sI q0 10))) h.1 fl_X0_21 (ids_s hq0 6 (by decide)) (eS6 hq0 _) rfl dX0_stateOf_9 ?_
    refine G_iload_n (pc := 12) h.1 dX0_stateOf_12 rfl 1 rfl ?_
    refine G_iald (pc := 13) h.1 (ids_s hq0 10 (by decide)) (eS10 hq0 _) dX0_stateOf_13 ?_
    refine G_goto (pc := 14) (tgt := 18) h.1 dX0_stateOf_14 (by decide) ?_
    exact G_ret (pc := 18) h rfl dX0_stateOf_18
theorem dX0_isOpen_0 : decode cX0_isOpen 0 = .ok (.aload_n 0, 1) := by decide +kernel
theorem dX0_isOpen_1 : decode cX0_isOpen 1 = .ok (.iload_n 1, 1) := by decide +kernel
theorem dX0_isOpen_2 : decode cX0_isOpen 2 = .ok (.invokevirtual 31, 3) := by decide +kernel
theorem dX0_isOpen_5 : decode cX0_isOpen 5 = .ok (.ifCond .eq 26, 3) := by decide +kernel
theorem dX0_isOpen_8 : decode cX0_isOpen 8 = .ok (.aload_n 0, 1) := by decide +kernel
theorem dX0_isOpen_9 : decode cX0_isOpen 9 = .ok (.getfield 21, 3) := by decide +kernel
theorem dX0_isOpen_12 : decode cX0_isOpen 12 = .ok (.iload_n 1, 1) := by decide +kernel
theorem dX0_isOpen_13 : decode cX0_isOpen 13 = .ok (.iaload, 1) := by decide +kernel
theorem dX0_isOpen_14 : decode cX0_isOpen 14 = .ok (.ifCond .eq 13, 3) := by decide +kernel
theorem dX0_isOpen_17 : decode cX0_isOpen 17 = .ok (.aload_n 0, 1) := by decide +kernel
theorem dX0_isOpen_18 : decode cX0_isOpen 18 = .ok (.getfield 21, 3) := by decide +kernel
theorem dX0_isOpen_21 : decode cX0_isOpen 21 = .ok (.iload_n 1, 1) := by decide +kernel
theorem dX0_isOpen_22 : decode cX0_isOpen 22 = .ok (.iaload, 1) := by decide +kernel
theorem dX0_isOpen_23 : decode cX0_isOpen 23 = .ok (.iconst 1, 1) := by decide +kernel
theorem dX0_isOpen_24 : decode cX0_isOpen 24 = .ok (.if_icmp .ne 7, 3) := by decide +kernel
theorem dX0_isOpen_27 : decode cX0_isOpen 27 = .ok (.iconst 1, 1) := by decide +kernel
theorem dX0_isOpen_28 : decode cX0_isOpen 28 = .ok (.goto 4, 3) := by decide +kernel
theorem dX0_isOpen_31 : decode cX0_isOpen 31 = .ok (.iconst 0, 1) := by decide +kernel
theorem dX0_isOpen_32 : decode cX0_isOpen 32 = .ok (.ireturn, 1) := by decide +kernel
abbrev rX0_isOpen : Room := { frames := 1, cells := 0, slots := 0, locals := 21 }
set_option maxRecDepth 20000 in
theorem c_X0_isOpen (l : Launch) (y : Cy) (hy : Inj y) (q0 : Nat) (hq0 : q0 < 7) (p1 : Int32) (M : Mem) : CT l y yX0_isOpen cX0_isOpen 2 (some .boolean) rX0_isOpen [.ref (y.2.1 (sI q0 6)), .int p1] M (d_X0_isOpen q0 p1 M) := by
  refine CT_of (by decide) hy (Nat.le_of_ble_eq_true rfl) (fun x hxl h => ?_)
  show G x y 0 [(0, .ref (y.2.1 (sI q0 6))), (1, .int p1)] [] M _
  unfold d_X0_isOpen
  refine G_aload_n (pc := 0) h.1 dX0_isOpen_0 rfl 0 rfl ?_
  refine G_iload_n (pc := 1) h.1 dX0_isOpen_1 rfl 1 rfl ?_
  refine G_callV (pc := 2) (As := [.int p1]) (rest := []) h.1 h.2.2.1 lk_X0_31 (ids_s hq0 6 (by decide)) (eS6 hq0 _) rfl rfl (c_X0_has x.1.2.1 y hy q0 hq0 p1 M) rfl rfl (Nat.le_of_ble_eq_true rfl) ⟨rfl, rfl, Nat.le_of_ble_eq_true rfl, Nat.le_of_ble_eq_true rfl⟩ dX0_isOpen_2 (fun r2 M1 => ?_)
  refine G_if_eq (pc := 5) (tgt := 31) h.1 dX0_isOpen_5 (by decide) ?_ ?_
  · refine G_iconst (pc := 31) (v := (0)) h.1 dX0_isOpen_31 (by decide) ?_
    exact G_ret (pc := 32) h rfl dX0_isOpen_32
  · refine G_aload_n (pc := 8) h.1 dX0_isOpen_8 rfl 0 rfl ?_
    refine G_get (pc := 9) (v := .ref (y.2.1 (sI q0 10))) h.1 fl_X0_21 (ids_s hq0 6 (by decide)) (eS6 hq0 _) rfl dX0_isOpen_9 ?_
    refine G_iload_n (pc := 12) h.1 dX0_isOpen_12 rfl 1 rfl ?_
    refine G_iald (pc := 13) h.1 (ids_s hq0 10 (by decide)) (eS10 hq0 _) dX0_isOpen_13 ?_
    refine G_if_eq (pc := 14) (tgt := 27) h.1 dX0_isOpen_14 (by decide) ?_ ?_
    · refine G_iconst (pc := 27) (v := (1)) h.1 dX0_isOpen_27 (by decide) ?_
      refine G_goto (pc := 28) (tgt := 32) h.1 dX0_isOpen_28 (by decide) ?_
      exact G_ret (pc := 32) h rfl dX0_isOpen_32
    · refine G_aload_n (pc := 17) h.1 dX0_isOpen_17 rfl 0 rfl ?_
      refine G_get (pc := 18) (v := .ref (y.2.1 (sI q0 10))) h.1 fl_X0_21 (ids_s hq0 6 (by decide)) (eS6 hq0 _) rfl dX0_isOpen_18 ?_
      refine G_iload_n (pc := 21) h.1 dX0_isOpen_21 rfl 1 rfl ?_
      refine G_iald (pc := 22) h.1 (ids_s hq0 10 (by decide)) (eS10 hq0 _) dX0_isOpen_22 ?_
      refine G_iconst (pc := 23) (v := (1)) h.1 dX0_isOpen_23 (by decide) ?_
      refine G_icmp_ne (pc := 24) (tgt := 31) h.1 dX0_isOpen_24 (by decide) ?_ ?_
      · refine G_iconst (pc := 31) (v := (0)) h.1 dX0_isOpen_31 (by decide) ?_
        exact G_ret (pc := 32) h rfl dX0_isOpen_32
      · refine G_iconst (pc := 27) (v := (1)) h.1 dX0_isOpen_27 (by decide) ?_
        refine G_goto (pc := 28) (tgt := 32) h.1 dX0_isOpen_28 (by decide) ?_
        exact G_ret (pc := 32) h rfl dX0_isOpen_32
theorem dX0_keepsBusy_0 : decode cX0_keepsBusy 0 = .ok (.aload_n 0, 1) := by decide +kernel
theorem dX0_keepsBusy_1 : decode cX0_keepsBusy 1 = .ok (.iload_n 1, 1) := by decide +kernel
theorem dX0_keepsBusy_2 : decode cX0_keepsBusy 2 = .ok (.invokevirtual 31, 3) := by decide +kernel
theorem dX0_keepsBusy_5 : decode cX0_keepsBusy 5 = .ok (.ifCond .eq 37, 3) := by decide +kernel
theorem dX0_keepsBusy_8 : decode cX0_keepsBusy 8 = .ok (.aload_n 0, 1) := by decide +kernel
theorem dX0_keepsBusy_9 : decode cX0_keepsBusy 9 = .ok (.getfield 9, 3) := by decide +kernel
theorem dX0_keepsBusy_12 : decode cX0_keepsBusy 12 = .ok (.iload_n 1, 1) := by decide +kernel
theorem dX0_keepsBusy_13 : decode cX0_keepsBusy 13 = .ok (.iaload, 1) := by decide +kernel
theorem dX0_keepsBusy_14 : decode cX0_keepsBusy 14 = .ok (.iload_n 2, 1) := by decide +kernel
theorem dX0_keepsBusy_15 : decode cX0_keepsBusy 15 = .ok (.if_icmp .ne 27, 3) := by decide +kernel
theorem dX0_keepsBusy_18 : decode cX0_keepsBusy 18 = .ok (.aload_n 0, 1) := by decide +kernel
theorem dX0_keepsBusy_19 : decode cX0_keepsBusy 19 = .ok (.getfield 21, 3) := by decide +kernel
theorem dX0_keepsBusy_22 : decode cX0_keepsBusy 22 = .ok (.iload_n 1, 1) := by decide +kernel
theorem dX0_keepsBusy_23 : decode cX0_keepsBusy 23 = .ok (.iaload, 1) := by decide +kernel
theorem dX0_keepsBusy_24 : decode cX0_keepsBusy 24 = .ok (.iconst 3, 1) := by decide +kernel
theorem dX0_keepsBusy_25 : decode cX0_keepsBusy 25 = .ok (.if_icmp .eq 17, 3) := by decide +kernel
theorem dX0_keepsBusy_28 : decode cX0_keepsBusy 28 = .ok (.aload_n 0, 1) := by decide +kernel
theorem dX0_keepsBusy_29 : decode cX0_keepsBusy 29 = .ok (.getfield 21, 3) := by decide +kernel
theorem dX0_keepsBusy_32 : decode cX0_keepsBusy 32 = .ok (.iload_n 1, 1) := by decide +kernel
theorem dX0_keepsBusy_33 : decode cX0_keepsBusy 33 = .ok (.iaload, 1) := by decide +kernel
theorem dX0_keepsBusy_34 : decode cX0_keepsBusy 34 = .ok (.iconst 4, 1) := by decide +kernel
theorem dX0_keepsBusy_35 : decode cX0_keepsBusy 35 = .ok (.if_icmp .eq 7, 3) := by decide +kernel
theorem dX0_keepsBusy_38 : decode cX0_keepsBusy 38 = .ok (.iconst 1, 1) := by decide +kernel
theorem dX0_keepsBusy_39 : decode cX0_keepsBusy 39 = .ok (.goto 4, 3) := by decide +kernel
theorem dX0_keepsBusy_42 : decode cX0_keepsBusy 42 = .ok (.iconst 0, 1) := by decide +kernel
theorem dX0_keepsBusy_43 : decode cX0_keepsBusy 43 = .ok (.ireturn, 1) := by decide +kernel
abbrev rX0_keepsBusy : Room := { frames := 1, cells := 0, slots := 0, locals := 21 }
set_option maxRecDepth 20000 in
theorem c_X0_keepsBusy (l : Launch) (y : Cy) (hy : Inj y) (q0 : Nat) (hq0 : q0 < 7) (p1 : Int32) (p2 : Int32) (M : Mem) : CT l y yX0_keepsBusy cX0_keepsBusy 3 (some .boolean) rX0_keepsBusy [.ref (y.2.1 (sI q0 6)), .int p1, .int p2] M (d_X0_keepsBusy q0 p1 p2 M) := by
  refine CT_of (by decide) hy (Nat.le_of_ble_eq_true rfl) (fun x hxl h => ?_)
  show G x y 0 [(0, .ref (y.2.1 (sI q0 6))), (1, .int p1), (2, .int p2)] [] M _
  unfold d_X0_keepsBusy
  refine G_aload_n (pc := 0) h.1 dX0_keepsBusy_0 rfl 0 rfl ?_
  refine G_iload_n (pc := 1) h.1 dX0_keepsBusy_1 rfl 1 rfl ?_
  refine G_callV (pc := 2) (As := [.int p1]) (rest := []) h.1 h.2.2.1 lk_X0_31 (ids_s hq0 6 (by decide)) (eS6 hq0 _) rfl rfl (c_X0_has x.1.2.1 y hy q0 hq0 p1 M) rfl rfl (Nat.le_of_ble_eq_true rfl) ⟨rfl, rfl, Nat.le_of_ble_eq_true rfl, Nat.le_of_ble_eq_true rfl⟩ dX0_keepsBusy_2 (fun r2 M1 => ?_)
  refine G_if_eq (pc := 5) (tgt := 42) h.1 dX0_keepsBusy_5 (by decide) ?_ ?_
  · refine G_iconst (pc := 42) (v := (0)) h.1 dX0_keepsBusy_42 (by decide) ?_
    exact G_ret (pc := 43) h rfl dX0_keepsBusy_43
  · refine G_aload_n (pc := 8) h.1 dX0_keepsBusy_8 rfl 0 rfl ?_
    refine G_get (pc := 9) (v := .ref (y.2.1 (sI q0 7))) h.1 fl_X0_9 (ids_s hq0 6 (by decide)) (eS6 hq0 _) rfl dX0_keepsBusy_9 ?_
    refine G_iload_n (pc := 12) h.1 dX0_keepsBusy_12 rfl 1 rfl ?_
    refine G_iald (pc := 13) h.1 (ids_s hq0 7 (by decide)) (eS7 hq0 _) dX0_keepsBusy_13 ?_
    refine G_iload_n (pc := 14) h.1 dX0_keepsBusy_14 rfl 2 rfl ?_
    refine G_icmp_ne (pc := 15) (tgt := 42) h.1 dX0_keepsBusy_15 (by decide) ?_ ?_
    · refine G_iconst (pc := 42) (v := (0)) h.1 dX0_keepsBusy_42 (by decide) ?_
      exact G_ret (pc := 43) h rfl dX0_keepsBusy_43
    · refine G_aload_n (pc := 18) h.1 dX0_keepsBusy_18 rfl 0 rfl ?_
      refine G_get (pc := 19) (v := .ref (y.2.1 (sI q0 10))) h.1 fl_X0_21 (ids_s hq0 6 (by decide)) (eS6 hq0 _) rfl dX0_keepsBusy_19 ?_
      refine G_iload_n (pc := 22) h.1 dX0_keepsBusy_22 rfl 1 rfl ?_
      refine G_iald (pc := 23) h.1 (ids_s hq0 10 (by decide)) (eS10 hq0 _) dX0_keepsBusy_23 ?_
      refine G_iconst (pc := 24) (v := (3)) h.1 dX0_keepsBusy_24 (by decide) ?_
      refine G_icmp_eq (pc := 25) (tgt := 42) h.1 dX0_keepsBusy_25 (by decide) ?_ ?_
      · refine G_iconst (pc := 42) (v := (0)) h.1 dX0_keepsBusy_42 (by decide) ?_
        exact G_ret (pc := 43) h rfl dX0_keepsBusy_43
      · refine G_aload_n (pc := 28) h.1 dX0_keepsBusy_28 rfl 0 rfl ?_
        refine G_get (pc := 29) (v := .ref (y.2.1 (sI q0 10))) h.1 fl_X0_21 (ids_s hq0 6 (by decide)) (eS6 hq0 _) rfl dX0_keepsBusy_29 ?_
        refine G_iload_n (pc := 32) h.1 dX0_keepsBusy_32 rfl 1 rfl ?_
        refine G_iald (pc := 33) h.1 (ids_s hq0 10 (by decide)) (eS10 hq0 _) dX0_keepsBusy_33 ?_
        refine G_iconst (pc := 34) (v := (4)) h.1 dX0_keepsBusy_34 (by decide) ?_
        refine G_icmp_eq (pc := 35) (tgt := 42) h.1 dX0_keepsBusy_35 (by decide) ?_ ?_
        · refine G_iconst (pc := 42) (v := (0)) h.1 dX0_keepsBusy_42 (by decide) ?_
          exact G_ret (pc := 43) h rfl dX0_keepsBusy_43
        · refine G_iconst (pc := 38) (v := (1)) h.1 dX0_keepsBusy_38 (by decide) ?_
          refine G_goto (pc := 39) (tgt := 43) h.1 dX0_keepsBusy_39 (by decide) ?_
          exact G_ret (pc := 43) h rfl dX0_keepsBusy_43
theorem dX0_inState_0 : decode cX0_inState 0 = .ok (.iconst 0, 1) := by decide +kernel
theorem dX0_inState_1 : decode cX0_inState 1 = .ok (.istore_n 2, 1) := by decide +kernel
theorem dX0_inState_2 : decode cX0_inState 2 = .ok (.iconst 0, 1) := by decide +kernel
theorem dX0_inState_3 : decode cX0_inState 3 = .ok (.istore_n 3, 1) := by decide +kernel
theorem dX0_inState_4 : decode cX0_inState 4 = .ok (.iload_n 3, 1) := by decide +kernel
theorem dX0_inState_5 : decode cX0_inState 5 = .ok (.aload_n 0, 1) := by decide +kernel
theorem dX0_inState_6 : decode cX0_inState 6 = .ok (.getfield 27, 3) := by decide +kernel
theorem dX0_inState_9 : decode cX0_inState 9 = .ok (.if_icmp .ge 22, 3) := by decide +kernel
theorem dX0_inState_12 : decode cX0_inState 12 = .ok (.aload_n 0, 1) := by decide +kernel
theorem dX0_inState_13 : decode cX0_inState 13 = .ok (.getfield 21, 3) := by decide +kernel
theorem dX0_inState_16 : decode cX0_inState 16 = .ok (.iload_n 3, 1) := by decide +kernel
theorem dX0_inState_17 : decode cX0_inState 17 = .ok (.iaload, 1) := by decide +kernel
theorem dX0_inState_18 : decode cX0_inState 18 = .ok (.iload_n 1, 1) := by decide +kernel
theorem dX0_inState_19 : decode cX0_inState 19 = .ok (.if_icmp .ne 6, 3) := by decide +kernel
theorem dX0_inState_22 : decode cX0_inState 22 = .ok (.iinc 2 1, 3) := by decide +kernel
theorem dX0_inState_25 : decode cX0_inState 25 = .ok (.iinc 3 1, 3) := by decide +kernel
theorem dX0_inState_28 : decode cX0_inState 28 = .ok (.goto (-24), 3) := by decide +kernel
theorem dX0_inState_31 : decode cX0_inState 31 = .ok (.iload_n 2, 1) := by decide +kernel
theorem dX0_inState_32 : decode cX0_inState 32 = .ok (.ireturn, 1) := by decide +kernel
abbrev rX0_inState : Room := { frames := 0, cells := 0, slots := 0, locals := 0 }
set_option maxRecDepth 20000 in
theorem gd_X0_inState_B25 {x : Cx} {y : Cy} (hy : Inj y) (h : OkM x y cX0_inState RX0 4 (some .int) rX0_inState) (q0 : Nat) (hq0 : q0 < 7) (kx1 : Int32 → Mem → Ans) (kb : Int32 → Int32 → Mem → Ans) (a1 : Int32) (a2 : Int32) (a3 : Int32) (hx1 : ∀ (b2 : Int32), ∀ M0 : Mem, G x y 31 [(2, .int b2)] [] M0 (kx1 b2 M0)) (hb : ∀ (b2 b3 : Int32), ∀ M0 : Mem, G x y 4 [(0, .ref (y.2.1 (sI q0 6))), (1, .int a1), (2, .int b2), (3, .int b3)] [] M0 (kb b2 b3 M0)) (M : Mem) : G x y 25 [(0, .ref (y.2.1 (sI q0 6))), (1, .int a1), (2, .int a2), (3, .int a3)] [] M (d_X0_inState_B25 q0 kx1 kb a1 a2 a3 M) := by
  unfold d_X0_inState_B25
  refine G_iinc (pc := 25) (v := a3 + (1)) h.1 h.2.1 (fun v1 => [(3, .int v1), (0, .ref (y.2.1 (sI q0 6))), (1, .int a1), (2, .int a2)]) dX0_inState_25 (by decide) 3 rfl rfl (fun _ => rfl) (fun v1 => ?_)
  refine G_goto (pc := 28) (tgt := 4) h.1 dX0_inState_28 (by decide) ?_
  exact G_sub [1, 2, 3, 0] rfl (hb a2 v1 M)
set_option maxRecDepth 20000 in
theorem gd_X0_inState_L4_body {x : Cx} {y : Cy} (hy : Inj y) (h : OkM x y cX0_inState RX0 4 (some .int) rX0_inState) (q0 : Nat) (hq0 : q0 < 7) (a1 : Int32) (kx1 : Int32 → Mem → Ans) (hx1 : ∀ (b2 : Int32), ∀ M0 : Mem, G x y 31 [(2, .int b2)] [] M0 (kx1 b2 M0)) (kb : Int32 → Int32 → Mem → Ans) (hb : ∀ (b2 b3 : Int32), ∀ M0 : Mem, G x y 4 [(0, .ref (y.2.1 (sI q0 6))), (1, .int a1), (2, .int b2), (3, .int b3)] [] M0 (kb b2 b3 M0)) (a2 : Int32) (a3 : Int32) (M : Mem) : G x y 4 [(0, .ref (y.2.1 (sI q0 6))), (1, .int a1), (2, .int a2), (3, .int a3)] [] M (d_X0_inState_L4_body q0 a1 kx1 kb a2 a3 M) := by
  unfold d_X0_inState_L4_body
  refine G_iload_n (pc := 4) h.1 dX0_inState_4 rfl 3 rfl ?_
  refine G_aload_n (pc := 5) h.1 dX0_inState_5 rfl 0 rfl ?_
  refine G_get (pc := 6) (v := .int (M (sI q0 6) 0)) h.1 fl_X0_27 (ids_s hq0 6 (by decide)) (eS6 hq0 _) rfl dX0_inState_6 ?_
  refine G_icmp_ge (pc := 9) (tgt := 31) h.1 dX0_inState_9 (by decide) ?_ ?_
  · exact G_sub [2] rfl (hx1 a2 M)
  · refine G_aload_n (pc := 12) h.1 dX0_inState_12 rfl 0 rfl ?_
    refine G_get (pc := 13) (v := .ref (y.2.1 (sI q0 10))) h.1 fl_X0_21 (ids_s hq0 6 (by decide)) (eS6 hq0 _) rfl dX0_inState_13 ?_
    refine G_iload_n (pc := 16) h.1 dX0_inState_16 rfl 3 rfl ?_
    refine G_iald (pc := 17) h.1 (ids_s hq0 10 (by decide)) (eS10 hq0 _) dX0_inState_17 ?_
    refine G_iload_n (pc := 18) h.1 dX0_inState_18 rfl 1 rfl ?_
    refine G_icmp_ne (pc := 19) (tgt := 25) h.1 dX0_inState_19 (by decide) ?_ ?_
    · exact G_sub [0, 1, 2, 3] rfl (gd_X0_inState_B25 hy h q0 hq0 kx1 kb a1 a2 a3 hx1 hb M)
    · refine G_iinc (pc := 22) (v := a2 + (1)) h.1 h.2.1 (fun v2 => [(2, .int v2), (0, .ref (y.2.1 (sI q0 6))), (1, .int a1), (3, .int a3)]) dX0_inState_22 (by decide) 2 rfl rfl (fun _ => rfl) (fun v2 => ?_)
      exact G_sub [1, 2, 0, 3] rfl (gd_X0_inState_B25 hy h q0 hq0 kx1 kb a1 v2 a3 hx1 hb M)
set_option maxRecDepth 20000 in
theorem gd_X0_inState_L4 {x : Cx} {y : Cy} (hy : Inj y) (h : OkM x y cX0_inState RX0 4 (some .int) rX0_inState) (q0 : Nat) (hq0 : q0 < 7) (a1 : Int32) (kx1 : Int32 → Mem → Ans) (hx1 : ∀ (b2 : Int32), ∀ M0 : Mem, G x y 31 [(2, .int b2)] [] M0 (kx1 b2 M0)) : ∀ (n : Nat) (a2 : Int32) (a3 : Int32) (M : Mem), G x y 4 [(0, .ref (y.2.1 (sI q0 6))), (1, .int a1), (2, .int a2), (3, .int a3)] [] M (d_X0_inState_L4 q0 a1 kx1 n a2 a3 M) := by
  intro n
  induction n with
  | zero => intro a2 a3 M; exact G_none
  | succ n ih => intro a2 a3 M; exact gd_X0_inState_L4_body hy h q0 hq0 a1 kx1 hx1 _ ih a2 a3 M
set_option maxRecDepth 20000 in
theorem c_X0_inState (l : Launch) (y : Cy) (hy : Inj y) (q0 : Nat) (hq0 : q0 < 7) (p1 : Int32) (M : Mem) : CT l y yX0_inState cX0_inState 4 (some .int) rX0_inState [.ref (y.2.1 (sI q0 6)), .int p1] M (d_X0_inState q0 p1 M) := by
  refine CT_of (by decide) hy (Nat.le_of_ble_eq_true rfl) (fun x hxl h => ?_)
  show G x y 0 [(0, .ref (y.2.1 (sI q0 6))), (1, .int p1)] [] M _
  unfold d_X0_inState
  refine G_iconst (pc := 0) (v := (0)) h.1 dX0_inState_0 (by decide) ?_
  refine G_istore_n (pc := 1) h.1 h.2.1 [(2, .int (0 : Int32)), (0, .ref (y.2.1 (sI q0 6))), (1, .int p1)] dX0_inState_1 rfl (by decide) rfl ?_
  refine G_iconst (pc := 2) (v := (0)) h.1 dX0_inState_2 (by decide) ?_
  refine G_istore_n (pc := 3) h.1 h.2.1 [(3, .int (0 : Int32)), (2, .int (0 : Int32)), (0, .ref (y.2.1 (sI q0 6))), (1, .int p1)] dX0_inState_3 rfl (by decide) rfl ?_
  refine G_sub [2, 3, 1, 0] rfl (gd_X0_inState_L4 hy h q0 hq0 p1 _ (fun v3 M4 => ?_) fuelN (0 : Int32) (0 : Int32) M)
  refine G_iload_n (pc := 31) h.1 dX0_inState_31 rfl 0 rfl ?_
  exact G_ret (pc := 32) h rfl dX0_inState_32
theorem dX0_ofRobot_0 : decode cX0_ofRobot 0 = .ok (.iconst 0, 1) := by decide +kernel
theorem dX0_ofRobot_1 : decode cX0_ofRobot 1 = .ok (.istore_n 3, 1) := by decide +kernel
theorem dX0_ofRobot_2 : decode cX0_ofRobot 2 = .ok (.iconst 0, 1) := by decide +kernel
theorem dX0_ofRobot_3 : decode cX0_ofRobot 3 = .ok (.istore 4, 2) := by decide +kernel
theorem dX0_ofRobot_5 : decode cX0_ofRobot 5 = .ok (.iload 4, 2) := by decide +kernel
theorem dX0_ofRobot_7 : decode cX0_ofRobot 7 = .ok (.aload_n 0, 1) := by decide +kernel
theorem dX0_ofRobot_8 : decode cX0_ofRobot 8 = .ok (.getfield 27, 3) := by decide +kernel
theorem dX0_ofRobot_11 : decode cX0_ofRobot 11 = .ok (.if_icmp .ge 34, 3) := by decide +kernel
theorem dX0_ofRobot_14 : decode cX0_ofRobot 14 = .ok (.aload_n 0, 1) := by decide +kernel
theorem dX0_ofRobot_15 : decode cX0_ofRobot 15 = .ok (.getfield 9, 3) := by decide +kernel
theorem dX0_ofRobot_18 : decode cX0_ofRobot 18 = .ok (.iload 4, 2) := by decide +kernel
theorem dX0_ofRobot_20 : decode cX0_ofRobot 20 = .ok (.iaload, 1) := by decide +kernel
theorem dX0_ofRobot_21 : decode cX0_ofRobot 21 = .ok (.iload_n 1, 1) := by decide +kernel
theorem dX0_ofRobot_22 : decode cX0_ofRobot 22 = .ok (.if_icmp .ne 17, 3) := by decide +kernel
theorem dX0_ofRobot_25 : decode cX0_ofRobot 25 = .ok (.aload_n 0, 1) := by decide +kernel
theorem dX0_ofRobot_26 : decode cX0_ofRobot 26 = .ok (.getfield 21, 3) := by decide +kernel
theorem dX0_ofRobot_29 : decode cX0_ofRobot 29 = .ok (.iload 4, 2) := by decide +kernel
theorem dX0_ofRobot_31 : decode cX0_ofRobot 31 = .ok (.iaload, 1) := by decide +kernel
theorem dX0_ofRobot_32 : decode cX0_ofRobot 32 = .ok (.iload_n 2, 1) := by decide +kernel
theorem dX0_ofRobot_33 : decode cX0_ofRobot 33 = .ok (.if_icmp .ne 6, 3) := by decide +kernel
theorem dX0_ofRobot_36 : decode cX0_ofRobot 36 = .ok (.iinc 3 1, 3) := by decide +kernel
theorem dX0_ofRobot_39 : decode cX0_ofRobot 39 = .ok (.iinc 4 1, 3) := by decide +kernel
theorem dX0_ofRobot_42 : decode cX0_ofRobot 42 = .ok (.goto (-37), 3) := by decide +kernel
theorem dX0_ofRobot_45 : decode cX0_ofRobot 45 = .ok (.iload_n 3, 1) := by decide +kernel
theorem dX0_ofRobot_46 : decode cX0_ofRobot 46 = .ok (.ireturn, 1) := by decide +kernel
abbrev rX0_ofRobot : Room := { frames := 0, cells := 0, slots := 0, locals := 0 }
set_option maxRecDepth 20000 in
theorem gd_X0_ofRobot_B39 {x : Cx} {y : Cy} (hy : Inj y) (h : OkM x y cX0_ofRobot RX0 5 (some .int) rX0_ofRobot) (q0 : Nat) (hq0 : q0 < 7) (kx1 : Int32 → Mem → Ans) (kb : Int32 → Int32 → Mem → Ans) (a1 : Int32) (a2 : Int32) (a3 : Int32) (a4 : Int32) (hx1 : ∀ (b3 : Int32), ∀ M0 : Mem, G x y 45 [(3, .int b3)] [] M0 (kx1 b3 M0)) (hb : ∀ (b3 b4 : Int32), ∀ M0 : Mem, G x y 5 [(0, .ref (y.2.1 (sI q0 6))), (1, .int a1), (2, .int a2), (3, .int b3), (4, .int b4)] [] M0 (kb b3 b4 M0)) (M : Mem) : G x y 39 [(0, .ref (y.2.1 (sI q0 6))), (1, .int a1), (2, .int a2), (3, .int a3), (4, .int a4)] [] M (d_X0_ofRobot_B39 q0 kx1 kb a1 a2 a3 a4 M) := by
  unfold d_X0_ofRobot_B39
  refine G_iinc (pc := 39) (v := a4 + (1)) h.1 h.2.1 (fun v1 => [(4, .int v1), (0, .ref (y.2.1 (sI q0 6))), (1, .int a1), (2, .int a2), (3, .int a3)]) dX0_ofRobot_39 (by decide) 4 rfl rfl (fun _ => rfl) (fun v1 => ?_)
  refine G_goto (pc := 42) (tgt := 5) h.1 dX0_ofRobot_42 (by decide) ?_
  exact G_sub [1, 2, 3, 4, 0] rfl (hb a3 v1 M)
set_option maxRecDepth 20000 in
theorem gd_X0_ofRobot_L5_body {x : Cx} {y : Cy} (hy : Inj y) (h : OkM x y cX0_ofRobot RX0 5 (some .int) rX0_ofRobot) (q0 : Nat) (hq0 : q0 < 7) (a1 : Int32) (a2 : Int32) (kx1 : Int32 → Mem → Ans) (hx1 : ∀ (b3 : Int32), ∀ M0 : Mem, G x y 45 [(3, .int b3)] [] M0 (kx1 b3 M0)) (kb : Int32 → Int32 → Mem → Ans) (hb : ∀ (b3 b4 : Int32), ∀ M0 : Mem, G x y 5 [(0, .ref (y.2.1 (sI q0 6))), (1, .int a1), (2, .int a2), (3, .int b3), (4, .int b4)] [] M0 (kb b3 b4 M0)) (a3 : Int32) (a4 : Int32) (M : Mem) : G x y 5 [(0, .ref (y.2.1 (sI q0 6))), (1, .int a1), (2, .int a2), (3, .int a3), (4, .int a4)] [] M (d_X0_ofRobot_L5_body q0 a1 a2 kx1 kb a3 a4 M) := by
  unfold d_X0_ofRobot_L5_body
  refine G_iload (pc := 5) h.1 dX0_ofRobot_5 4 rfl ?_
  refine G_aload_n (pc := 7) h.1 dX0_ofRobot_7 rfl 0 rfl ?_
  refine G_get (pc := 8) (v := .int (M (sI q0 6) 0)) h.1 fl_X0_27 (ids_s hq0 6 (by decide)) (eS6 hq0 _) rfl dX0_ofRobot_8 ?_
  refine G_icmp_ge (pc := 11) (tgt := 45) h.1 dX0_ofRobot_11 (by decide) ?_ ?_
  · exact G_sub [3] rfl (hx1 a3 M)
  · refine G_aload_n (pc := 14) h.1 dX0_ofRobot_14 rfl 0 rfl ?_
    refine G_get (pc := 15) (v := .ref (y.2.1 (sI q0 7))) h.1 fl_X0_9 (ids_s hq0 6 (by decide)) (eS6 hq0 _) rfl dX0_ofRobot_15 ?_
    refine G_iload (pc := 18) h.1 dX0_ofRobot_18 4 rfl ?_
    refine G_iald (pc := 20) h.1 (ids_s hq0 7 (by decide)) (eS7 hq0 _) dX0_ofRobot_20 ?_
    refine G_iload_n (pc := 21) h.1 dX0_ofRobot_21 rfl 1 rfl ?_
    refine G_icmp_ne (pc := 22) (tgt := 39) h.1 dX0_ofRobot_22 (by decide) ?_ ?_
    · exact G_sub [0, 1, 2, 3, 4] rfl (gd_X0_ofRobot_B39 hy h q0 hq0 kx1 kb a1 a2 a3 a4 hx1 hb M)
    · refine G_aload_n (pc := 25) h.1 dX0_ofRobot_25 rfl 0 rfl ?_
      refine G_get (pc := 26) (v := .ref (y.2.1 (sI q0 10))) h.1 fl_X0_21 (ids_s hq0 6 (by decide)) (eS6 hq0 _) rfl dX0_ofRobot_26 ?_
      refine G_iload (pc := 29) h.1 dX0_ofRobot_29 4 rfl ?_
      refine G_iald (pc := 31) h.1 (ids_s hq0 10 (by decide)) (eS10 hq0 _) dX0_ofRobot_31 ?_
      refine G_iload_n (pc := 32) h.1 dX0_ofRobot_32 rfl 2 rfl ?_
      refine G_icmp_ne (pc := 33) (tgt := 39) h.1 dX0_ofRobot_33 (by decide) ?_ ?_
      · exact G_sub [0, 1, 2, 3, 4] rfl (gd_X0_ofRobot_B39 hy h q0 hq0 kx1 kb a1 a2 a3 a4 hx1 hb M)
      · refine G_iinc (pc := 36) (v := a3 + (1)) h.1 h.2.1 (fun v2 => [(3, .int v2), (0, .ref (y.2.1 (sI q0 6))), (1, .int a1), (2, .int a2), (4, .int a4)]) dX0_ofRobot_36 (by decide) 3 rfl rfl (fun _ => rfl) (fun v2 => ?_)
        exact G_sub [1, 2, 3, 0, 4] rfl (gd_X0_ofRobot_B39 hy h q0 hq0 kx1 kb a1 a2 v2 a4 hx1 hb M)
set_option maxRecDepth 20000 in
theorem gd_X0_ofRobot_L5 {x : Cx} {y : Cy} (hy : Inj y) (h : OkM x y cX0_ofRobot RX0 5 (some .int) rX0_ofRobot) (q0 : Nat) (hq0 : q0 < 7) (a1 : Int32) (a2 : Int32) (kx1 : Int32 → Mem → Ans) (hx1 : ∀ (b3 : Int32), ∀ M0 : Mem, G x y 45 [(3, .int b3)] [] M0 (kx1 b3 M0)) : ∀ (n : Nat) (a3 : Int32) (a4 : Int32) (M : Mem), G x y 5 [(0, .ref (y.2.1 (sI q0 6))), (1, .int a1), (2, .int a2), (3, .int a3), (4, .int a4)] [] M (d_X0_ofRobot_L5 q0 a1 a2 kx1 n a3 a4 M) := by
  intro n
  induction n with
  | zero => intro a3 a4 M; exact G_none
  | succ n ih => intro a3 a4 M; exact gd_X0_ofRobot_L5_body hy h q0 hq0 a1 a2 kx1 hx1 _ ih a3 a4 M
set_option maxRecDepth 20000 in
theorem c_X0_ofRobot (l : Launch) (y : Cy) (hy : Inj y) (q0 : Nat) (hq0 : q0 < 7) (p1 : Int32) (p2 : Int32) (M : Mem) : CT l y yX0_ofRobot cX0_ofRobot 5 (some .int) rX0_ofRobot [.ref (y.2.1 (sI q0 6)), .int p1, .int p2] M (d_X0_ofRobot q0 p1 p2 M) := by
  refine CT_of (by decide) hy (Nat.le_of_ble_eq_true rfl) (fun x hxl h => ?_)
  show G x y 0 [(0, .ref (y.2.1 (sI q0 6))), (1, .int p1), (2, .int p2)] [] M _
  unfold d_X0_ofRobot
  refine G_iconst (pc := 0) (v := (0)) h.1 dX0_ofRobot_0 (by decide) ?_
  refine G_istore_n (pc := 1) h.1 h.2.1 [(3, .int (0 : Int32)), (0, .ref (y.2.1 (sI q0 6))), (1, .int p1), (2, .int p2)] dX0_ofRobot_1 rfl (by decide) rfl ?_
  refine G_iconst (pc := 2) (v := (0)) h.1 dX0_ofRobot_2 (by decide) ?_
  refine G_istore (pc := 3) h.1 h.2.1 [(4, .int (0 : Int32)), (3, .int (0 : Int32)), (0, .ref (y.2.1 (sI q0 6))), (1, .int p1), (2, .int p2)] dX0_ofRobot_3 (by decide) rfl ?_
  refine G_sub [2, 3, 4, 1, 0] rfl (gd_X0_ofRobot_L5 hy h q0 hq0 p1 p2 _ (fun v3 M4 => ?_) fuelN (0 : Int32) (0 : Int32) M)
  refine G_iload_n (pc := 45) h.1 dX0_ofRobot_45 rfl 0 rfl ?_
  exact G_ret (pc := 46) h rfl dX0_ofRobot_46
theorem dX0_doneOfRecipe_0 : decode cX0_doneOfRecipe 0 = .ok (.iconst 0, 1) := by decide +kernel
theorem dX0_doneOfRecipe_1 : decode cX0_doneOfRecipe 1 = .ok (.istore_n 2, 1) := by decide +kernel
theorem dX0_doneOfRecipe_2 : decode cX0_doneOfRecipe 2 = .ok (.iconst 0, 1) := by decide +kernel
theorem dX0_doneOfRecipe_3 : decode cX0_doneOfRecipe 3 = .ok (.istore_n 3, 1) := by decide +kernel
theorem dX0_doneOfRecipe_4 : decode cX0_doneOfRecipe 4 = .ok (.iload_n 3, 1) := by decide +kernel
theorem dX0_doneOfRecipe_5 : decode cX0_doneOfRecipe 5 = .ok (.aload_n 0, 1) := by decide +kernel
theorem dX0_doneOfRecipe_6 : decode cX0_doneOfRecipe 6 = .ok (.getfield 27, 3) := by decide +kernel
theorem dX0_doneOfRecipe_9 : decode cX0_doneOfRecipe 9 = .ok (.if_icmp .ge 32, 3) := by decide +kernel
theorem dX0_doneOfRecipe_12 : decode cX0_doneOfRecipe 12 = .ok (.aload_n 0, 1) := by decide +kernel
theorem dX0_doneOfRecipe_13 : decode cX0_doneOfRecipe 13 = .ok (.getfield 15, 3) := by decide +kernel
theorem dX0_doneOfRecipe_16 : decode cX0_doneOfRecipe 16 = .ok (.iload_n 3, 1) := by decide +kernel
theorem dX0_doneOfRecipe_17 : decode cX0_doneOfRecipe 17 = .ok (.iaload, 1) := by decide +kernel
theorem dX0_doneOfRecipe_18 : decode cX0_doneOfRecipe 18 = .ok (.iload_n 1, 1) := by decide +kernel
theorem dX0_doneOfRecipe_19 : decode cX0_doneOfRecipe 19 = .ok (.if_icmp .ne 16, 3) := by decide +kernel
theorem dX0_doneOfRecipe_22 : decode cX0_doneOfRecipe 22 = .ok (.aload_n 0, 1) := by decide +kernel
theorem dX0_doneOfRecipe_23 : decode cX0_doneOfRecipe 23 = .ok (.getfield 21, 3) := by decide +kernel
theorem dX0_doneOfRecipe_26 : decode cX0_doneOfRecipe 26 = .ok (.iload_n 3, 1) := by decide +kernel
theorem dX0_doneOfRecipe_27 : decode cX0_doneOfRecipe 27 = .ok (.iaload, 1) := by decide +kernel
theorem dX0_doneOfRecipe_28 : decode cX0_doneOfRecipe 28 = .ok (.iconst 2, 1) := by decide +kernel
theorem dX0_doneOfRecipe_29 : decode cX0_doneOfRecipe 29 = .ok (.if_icmp .ne 6, 3) := by decide +kernel
theorem dX0_doneOfRecipe_32 : decode cX0_doneOfRecipe 32 = .ok (.iinc 2 1, 3) := by decide +kernel
theorem dX0_doneOfRecipe_35 : decode cX0_doneOfRecipe 35 = .ok (.iinc 3 1, 3) := by decide +kernel
theorem dX0_doneOfRecipe_38 : decode cX0_doneOfRecipe 38 = .ok (.goto (-34), 3) := by decide +kernel
theorem dX0_doneOfRecipe_41 : decode cX0_doneOfRecipe 41 = .ok (.iload_n 2, 1) := by decide +kernel
theorem dX0_doneOfRecipe_42 : decode cX0_doneOfRecipe 42 = .ok (.ireturn, 1) := by decide +kernel
abbrev rX0_doneOfRecipe : Room := { frames := 0, cells := 0, slots := 0, locals := 0 }
set_option maxRecDepth 20000 in
theorem gd_X0_doneOfRecipe_B35 {x : Cx} {y : Cy} (hy : Inj y) (h : OkM x y cX0_doneOfRecipe RX0 4 (some .int) rX0_doneOfRecipe) (q0 : Nat) (hq0 : q0 < 7) (kx1 : Int32 → Mem → Ans) (kb : Int32 → Int32 → Mem → Ans) (a1 : Int32) (a2 : Int32) (a3 : Int32) (hx1 : ∀ (b2 : Int32), ∀ M0 : Mem, G x y 41 [(2, .int b2)] [] M0 (kx1 b2 M0)) (hb : ∀ (b2 b3 : Int32), ∀ M0 : Mem, G x y 4 [(0, .ref (y.2.1 (sI q0 6))), (1, .int a1), (2, .int b2), (3, .int b3)] [] M0 (kb b2 b3 M0)) (M : Mem) : G x y 35 [(0, .ref (y.2.1 (sI q0 6))), (1, .int a1), (2, .int a2), (3, .int a3)] [] M (d_X0_doneOfRecipe_B35 q0 kx1 kb a1 a2 a3 M) := by
  unfold d_X0_doneOfRecipe_B35
  refine G_iinc (pc := 35) (v := a3 + (1)) h.1 h.2.1 (fun v1 => [(3, .int v1), (0, .ref (y.2.1 (sI q0 6))), (1, .int a1), (2, .int a2)]) dX0_doneOfRecipe_35 (by decide) 3 rfl rfl (fun _ => rfl) (fun v1 => ?_)
  refine G_goto (pc := 38) (tgt := 4) h.1 dX0_doneOfRecipe_38 (by decide) ?_
  exact G_sub [1, 2, 3, 0] rfl (hb a2 v1 M)
set_option maxRecDepth 20000 in
theorem gd_X0_doneOfRecipe_L4_body {x : Cx} {y : Cy} (hy : Inj y) (h : OkM x y cX0_doneOfRecipe RX0 4 (some .int) rX0_doneOfRecipe) (q0 : Nat) (hq0 : q0 < 7) (a1 : Int32) (kx1 : Int32 → Mem → Ans) (hx1 : ∀ (b2 : Int32), ∀ M0 : Mem, G x y 41 [(2, .int b2)] [] M0 (kx1 b2 M0)) (kb : Int32 → Int32 → Mem → Ans) (hb : ∀ (b2 b3 : Int32), ∀ M0 : Mem, G x y 4 [(0, .ref (y.2.1 (sI q0 6))), (1, .int a1), (2, .int b2), (3, .int b3)] [] M0 (kb b2 b3 M0)) (a2 : Int32) (a3 : Int32) (M : Mem) : G x y 4 [(0, .ref (y.2.1 (sI q0 6))), (1, .int a1), (2, .int a2), (3, .int a3)] [] M (d_X0_doneOfRecipe_L4_body q0 a1 kx1 kb a2 a3 M) := by
  unfold d_X0_doneOfRecipe_L4_body
  refine G_iload_n (pc := 4) h.1 dX0_doneOfRecipe_4 rfl 3 rfl ?_
  refine G_aload_n (pc := 5) h.1 dX0_doneOfRecipe_5 rfl 0 rfl ?_
  refine G_get (pc := 6) (v := .int (M (sI q0 6) 0)) h.1 fl_X0_27 (ids_s hq0 6 (by decide)) (eS6 hq0 _) rfl dX0_doneOfRecipe_6 ?_
  refine G_icmp_ge (pc := 9) (tgt := 41) h.1 dX0_doneOfRecipe_9 (by decide) ?_ ?_
  · exact G_sub [2] rfl (hx1 a2 M)
  · refine G_aload_n (pc := 12) h.1 dX0_doneOfRecipe_12 rfl 0 rfl ?_
    refine G_get (pc := 13) (v := .ref (y.2.1 (sI q0 8))) h.1 fl_X0_15 (ids_s hq0 6 (by decide)) (eS6 hq0 _) rfl dX0_doneOfRecipe_13 ?_
    refine G_iload_n (pc := 16) h.1 dX0_doneOfRecipe_16 rfl 3 rfl ?_
    refine G_iald (pc := 17) h.1 (ids_s hq0 8 (by decide)) (eS8 hq0 _) dX0_doneOfRecipe_17 ?_
    refine G_iload_n (pc := 18) h.1 dX0_doneOfRecipe_18 rfl 1 rfl ?_
    refine G_icmp_ne (pc := 19) (tgt := 35) h.1 dX0_doneOfRecipe_19 (by decide) ?_ ?_
    · exact G_sub [0, 1, 2, 3] rfl (gd_X0_doneOfRecipe_B35 hy h q0 hq0 kx1 kb a1 a2 a3 hx1 hb M)
    · refine G_aload_n (pc := 22) h.1 dX0_doneOfRecipe_22 rfl 0 rfl ?_
      refine G_get (pc := 23) (v := .ref (y.2.1 (sI q0 10))) h.1 fl_X0_21 (ids_s hq0 6 (by decide)) (eS6 hq0 _) rfl dX0_doneOfRecipe_23 ?_
      refine G_iload_n (pc := 26) h.1 dX0_doneOfRecipe_26 rfl 3 rfl ?_
      refine G_iald (pc := 27) h.1 (ids_s hq0 10 (by decide)) (eS10 hq0 _) dX0_doneOfRecipe_27 ?_
      refine G_iconst (pc := 28) (v := (2)) h.1 dX0_doneOfRecipe_28 (by decide) ?_
      refine G_icmp_ne (pc := 29) (tgt := 35) h.1 dX0_doneOfRecipe_29 (by decide) ?_ ?_
      · exact G_sub [0, 1, 2, 3] rfl (gd_X0_doneOfRecipe_B35 hy h q0 hq0 kx1 kb a1 a2 a3 hx1 hb M)
      · refine G_iinc (pc := 32) (v := a2 + (1)) h.1 h.2.1 (fun v2 => [(2, .int v2), (0, .ref (y.2.1 (sI q0 6))), (1, .int a1), (3, .int a3)]) dX0_doneOfRecipe_32 (by decide) 2 rfl rfl (fun _ => rfl) (fun v2 => ?_)
        exact G_sub [1, 2, 0, 3] rfl (gd_X0_doneOfRecipe_B35 hy h q0 hq0 kx1 kb a1 v2 a3 hx1 hb M)
set_option maxRecDepth 20000 in
theorem gd_X0_doneOfRecipe_L4 {x : Cx} {y : Cy} (hy : Inj y) (h : OkM x y cX0_doneOfRecipe RX0 4 (some .int) rX0_doneOfRecipe) (q0 : Nat) (hq0 : q0 < 7) (a1 : Int32) (kx1 : Int32 → Mem → Ans) (hx1 : ∀ (b2 : Int32), ∀ M0 : Mem, G x y 41 [(2, .int b2)] [] M0 (kx1 b2 M0)) : ∀ (n : Nat) (a2 : Int32) (a3 : Int32) (M : Mem), G x y 4 [(0, .ref (y.2.1 (sI q0 6))), (1, .int a1), (2, .int a2), (3, .int a3)] [] M (d_X0_doneOfRecipe_L4 q0 a1 kx1 n a2 a3 M) := by
  intro n
  induction n with
  | zero => intro a2 a3 M; exact G_none
  | succ n ih => intro a2 a3 M; exact gd_X0_doneOfRecipe_L4_body hy h q0 hq0 a1 kx1 hx1 _ ih a2 a3 M
set_option maxRecDepth 20000 in
theorem c_X0_doneOfRecipe (l : Launch) (y : Cy) (hy : Inj y) (q0 : Nat) (hq0 : q0 < 7) (p1 : Int32) (M : Mem) : CT l y yX0_doneOfRecipe cX0_doneOfRecipe 4 (some .int) rX0_doneOfRecipe [.ref (y.2.1 (sI q0 6)), .int p1] M (d_X0_doneOfRecipe q0 p1 M) := by
  refine CT_of (by decide) hy (Nat.le_of_ble_eq_true rfl) (fun x hxl h => ?_)
  show G x y 0 [(0, .ref (y.2.1 (sI q0 6))), (1, .int p1)] [] M _
  unfold d_X0_doneOfRecipe
  refine G_iconst (pc := 0) (v := (0)) h.1 dX0_doneOfRecipe_0 (by decide) ?_
  refine G_istore_n (pc := 1) h.1 h.2.1 [(2, .int (0 : Int32)), (0, .ref (y.2.1 (sI q0 6))), (1, .int p1)] dX0_doneOfRecipe_1 rfl (by decide) rfl ?_
  refine G_iconst (pc := 2) (v := (0)) h.1 dX0_doneOfRecipe_2 (by decide) ?_
  refine G_istore_n (pc := 3) h.1 h.2.1 [(3, .int (0 : Int32)), (2, .int (0 : Int32)), (0, .ref (y.2.1 (sI q0 6))), (1, .int p1)] dX0_doneOfRecipe_3 rfl (by decide) rfl ?_
  refine G_sub [2, 3, 1, 0] rfl (gd_X0_doneOfRecipe_L4 hy h q0 hq0 p1 _ (fun v3 M4 => ?_) fuelN (0 : Int32) (0 : Int32) M)
  refine G_iload_n (pc := 41) h.1 dX0_doneOfRecipe_41 rfl 0 rfl ?_
  exact G_ret (pc := 42) h rfl dX0_doneOfRecipe_42
theorem dX0_copyFrom_0 : decode cX0_copyFrom 0 = .ok (.aload_n 0, 1) := by decide +kernel
theorem dX0_copyFrom_1 : decode cX0_copyFrom 1 = .ok (.aload_n 1, 1) := by decide +kernel
theorem dX0_copyFrom_2 : decode cX0_copyFrom 2 = .ok (.getfield 27, 3) := by decide +kernel
theorem dX0_copyFrom_5 : decode cX0_copyFrom 5 = .ok (.putfield 27, 3) := by decide +kernel
theorem dX0_copyFrom_8 : decode cX0_copyFrom 8 = .ok (.aload_n 1, 1) := by decide +kernel
theorem dX0_copyFrom_9 : decode cX0_copyFrom 9 = .ok (.getfield 9, 3) := by decide +kernel
theorem dX0_copyFrom_12 : decode cX0_copyFrom 12 = .ok (.iconst 0, 1) := by decide +kernel
theorem dX0_copyFrom_13 : decode cX0_copyFrom 13 = .ok (.aload_n 0, 1) := by decide +kernel
theorem dX0_copyFrom_14 : decode cX0_copyFrom 14 = .ok (.getfield 9, 3) := by decide +kernel
theorem dX0_copyFrom_17 : decode cX0_copyFrom 17 = .ok (.iconst 0, 1) := by decide +kernel
theorem dX0_copyFrom_18 : decode cX0_copyFrom 18 = .ok (.bipush 60, 2) := by decide +kernel
theorem dX0_copyFrom_20 : decode cX0_copyFrom 20 = .ok (.invokestatic 35, 3) := by decide +kernel
theorem dX0_copyFrom_23 : decode cX0_copyFrom 23 = .ok (.aload_n 1, 1) := by decide +kernel
theorem dX0_copyFrom_24 : decode cX0_copyFrom 24 = .ok (.getfield 15, 3) := by decide +kernel
theorem dX0_copyFrom_27 : decode cX0_copyFrom 27 = .ok (.iconst 0, 1) := by decide +kernel
theorem dX0_copyFrom_28 : decode cX0_copyFrom 28 = .ok (.aload_n 0, 1) := by decide +kernel
theorem dX0_copyFrom_29 : decode cX0_copyFrom 29 = .ok (.getfield 15, 3) := by decide +kernel
theorem dX0_copyFrom_32 : decode cX0_copyFrom 32 = .ok (.iconst 0, 1) := by decide +kernel
theorem dX0_copyFrom_33 : decode cX0_copyFrom 33 = .ok (.bipush 60, 2) := by decide +kernel
theorem dX0_copyFrom_35 : decode cX0_copyFrom 35 = .ok (.invokestatic 35, 3) := by decide +kernel
theorem dX0_copyFrom_38 : decode cX0_copyFrom 38 = .ok (.aload_n 1, 1) := by decide +kernel
theorem dX0_copyFrom_39 : decode cX0_copyFrom 39 = .ok (.getfield 18, 3) := by decide +kernel
theorem dX0_copyFrom_42 : decode cX0_copyFrom 42 = .ok (.iconst 0, 1) := by decide +kernel
theorem dX0_copyFrom_43 : decode cX0_copyFrom 43 = .ok (.aload_n 0, 1) := by decide +kernel
theorem dX0_copyFrom_44 : decode cX0_copyFrom 44 = .ok (.getfield 18, 3) := by decide +kernel
theorem dX0_copyFrom_47 : decode cX0_copyFrom 47 = .ok (.iconst 0, 1) := by decide +kernel
theorem dX0_copyFrom_48 : decode cX0_copyFrom 48 = .ok (.bipush 60, 2) := by decide +kernel
theorem dX0_copyFrom_50 : decode cX0_copyFrom 50 = .ok (.invokestatic 35, 3) := by decide +kernel
theorem dX0_copyFrom_53 : decode cX0_copyFrom 53 = .ok (.aload_n 1, 1) := by decide +kernel
theorem dX0_copyFrom_54 : decode cX0_copyFrom 54 = .ok (.getfield 21, 3) := by decide +kernel
theorem dX0_copyFrom_57 : decode cX0_copyFrom 57 = .ok (.iconst 0, 1) := by decide +kernel
theorem dX0_copyFrom_58 : decode cX0_copyFrom 58 = .ok (.aload_n 0, 1) := by decide +kernel
theorem dX0_copyFrom_59 : decode cX0_copyFrom 59 = .ok (.getfield 21, 3) := by decide +kernel
theorem dX0_copyFrom_62 : decode cX0_copyFrom 62 = .ok (.iconst 0, 1) := by decide +kernel
theorem dX0_copyFrom_63 : decode cX0_copyFrom 63 = .ok (.bipush 60, 2) := by decide +kernel
theorem dX0_copyFrom_65 : decode cX0_copyFrom 65 = .ok (.invokestatic 35, 3) := by decide +kernel
theorem dX0_copyFrom_68 : decode cX0_copyFrom 68 = .ok (.aload_n 1, 1) := by decide +kernel
theorem dX0_copyFrom_69 : decode cX0_copyFrom 69 = .ok (.getfield 24, 3) := by decide +kernel
theorem dX0_copyFrom_72 : decode cX0_copyFrom 72 = .ok (.iconst 0, 1) := by decide +kernel
theorem dX0_copyFrom_73 : decode cX0_copyFrom 73 = .ok (.aload_n 0, 1) := by decide +kernel
theorem dX0_copyFrom_74 : decode cX0_copyFrom 74 = .ok (.getfield 24, 3) := by decide +kernel
theorem dX0_copyFrom_77 : decode cX0_copyFrom 77 = .ok (.iconst 0, 1) := by decide +kernel
theorem dX0_copyFrom_78 : decode cX0_copyFrom 78 = .ok (.bipush 60, 2) := by decide +kernel
theorem dX0_copyFrom_80 : decode cX0_copyFrom 80 = .ok (.invokestatic 35, 3) := by decide +kernel
theorem dX0_copyFrom_83 : decode cX0_copyFrom 83 = .ok (.return_, 1) := by decide +kernel
abbrev rX0_copyFrom : Room := { frames := 1, cells := 0, slots := 0, locals := 18 }
set_option maxRecDepth 20000 in
theorem c_X0_copyFrom (l : Launch) (y : Cy) (hy : Inj y) (q0 : Nat) (q1 : Nat) (hq0 : q0 < 7) (hq1 : q1 < 7) (M : Mem) : CT l y yX0_copyFrom cX0_copyFrom 2 none rX0_copyFrom [.ref (y.2.1 (sI q0 6)), .ref (y.2.1 (sI q1 6))] M (d_X0_copyFrom q0 q1 M) := by
  refine CT_of (by decide) hy (Nat.le_of_ble_eq_true rfl) (fun x hxl h => ?_)
  show G x y 0 [(0, .ref (y.2.1 (sI q0 6))), (1, .ref (y.2.1 (sI q1 6)))] [] M _
  unfold d_X0_copyFrom
  refine G_aload_n (pc := 0) h.1 dX0_copyFrom_0 rfl 0 rfl ?_
  refine G_aload_n (pc := 1) h.1 dX0_copyFrom_1 rfl 1 rfl ?_
  refine G_get (pc := 2) (v := .int (M (sI q1 6) 0)) h.1 fl_X0_27 (ids_s hq1 6 (by decide)) (eS6 hq1 _) rfl dX0_copyFrom_2 ?_
  refine G_put (pc := 5) h.1 fp_X0_27 (ids_s hq0 6 (by decide)) (fun m => eS6 hq0 m) (fun _ => rfl) (fun _ => Nat.le_of_ble_eq_true rfl) rfl rfl dX0_copyFrom_5 (fun M1 => ?_)
  refine G_aload_n (pc := 8) h.1 dX0_copyFrom_8 rfl 1 rfl ?_
  refine G_get (pc := 9) (v := .ref (y.2.1 (sI q1 7))) h.1 fl_X0_9 (ids_s hq1 6 (by decide)) (eS6 hq1 _) rfl dX0_copyFrom_9 ?_
  refine G_iconst (pc := 12) (v := (0)) h.1 dX0_copyFrom_12 (by decide) ?_
  refine G_aload_n (pc := 13) h.1 dX0_copyFrom_13 rfl 0 rfl ?_
  refine G_get (pc := 14) (v := .ref (y.2.1 (sI q0 7))) h.1 fl_X0_9 (ids_s hq0 6 (by decide)) (eS6 hq0 _) rfl dX0_copyFrom_14 ?_
  refine G_iconst (pc := 17) (v := (0)) h.1 dX0_copyFrom_17 (by decide) ?_
  refine G_bipush (pc := 18) (v := (60)) h.1 dX0_copyFrom_18 (by decide) ?_
  refine G_copy (pc := 20) h.1 h.2.2.1 mc_X0_35 (ids_s hq1 7 (by decide)) (ids_s hq0 7 (by decide)) (eS7 hq1 _) (fun m => eS7 hq0 m) (by decide) (by decide) dX0_copyFrom_20 (Nat.le_of_ble_eq_true rfl) (Nat.le_of_ble_eq_true rfl) (fun M2 => ?_)
  refine G_aload_n (pc := 23) h.1 dX0_copyFrom_23 rfl 1 rfl ?_
  refine G_get (pc := 24) (v := .ref (y.2.1 (sI q1 8))) h.1 fl_X0_15 (ids_s hq1 6 (by decide)) (eS6 hq1 _) rfl dX0_copyFrom_24 ?_
  refine G_iconst (pc := 27) (v := (0)) h.1 dX0_copyFrom_27 (by decide) ?_
  refine G_aload_n (pc := 28) h.1 dX0_copyFrom_28 rfl 0 rfl ?_
  refine G_get (pc := 29) (v := .ref (y.2.1 (sI q0 8))) h.1 fl_X0_15 (ids_s hq0 6 (by decide)) (eS6 hq0 _) rfl dX0_copyFrom_29 ?_
  refine G_iconst (pc := 32) (v := (0)) h.1 dX0_copyFrom_32 (by decide) ?_
  refine G_bipush (pc := 33) (v := (60)) h.1 dX0_copyFrom_33 (by decide) ?_
  refine G_copy (pc := 35) h.1 h.2.2.1 mc_X0_35 (ids_s hq1 8 (by decide)) (ids_s hq0 8 (by decide)) (eS8 hq1 _) (fun m => eS8 hq0 m) (by decide) (by decide) dX0_copyFrom_35 (Nat.le_of_ble_eq_true rfl) (Nat.le_of_ble_eq_true rfl) (fun M3 => ?_)
  refine G_aload_n (pc := 38) h.1 dX0_copyFrom_38 rfl 1 rfl ?_
  refine G_get (pc := 39) (v := .ref (y.2.1 (sI q1 9))) h.1 fl_X0_18 (ids_s hq1 6 (by decide)) (eS6 hq1 _) rfl dX0_copyFrom_39 ?_
  refine G_iconst (pc := 42) (v := (0)) h.1 dX0_copyFrom_42 (by decide) ?_
  refine G_aload_n (pc := 43) h.1 dX0_copyFrom_43 rfl 0 rfl ?_
  refine G_get (pc := 44) (v := .ref (y.2.1 (sI q0 9))) h.1 fl_X0_18 (ids_s hq0 6 (by decide)) (eS6 hq0 _) rfl dX0_copyFrom_44 ?_
  refine G_iconst (pc := 47) (v := (0)) h.1 dX0_copyFrom_47 (by decide) ?_
  refine G_bipush (pc := 48) (v := (60)) h.1 dX0_copyFrom_48 (by decide) ?_
  refine G_copy (pc := 50) h.1 h.2.2.1 mc_X0_35 (ids_s hq1 9 (by decide)) (ids_s hq0 9 (by decide)) (eS9 hq1 _) (fun m => eS9 hq0 m) (by decide) (by decide) dX0_copyFrom_50 (Nat.le_of_ble_eq_true rfl) (Nat.le_of_ble_eq_true rfl) (fun M4 => ?_)
  refine G_aload_n (pc := 53) h.1 dX0_copyFrom_53 rfl 1 rfl ?_
  refine G_get (pc := 54) (v := .ref (y.2.1 (sI q1 10))) h.1 fl_X0_21 (ids_s hq1 6 (by decide)) (eS6 hq1 _) rfl dX0_copyFrom_54 ?_
  refine G_iconst (pc := 57) (v := (0)) h.1 dX0_copyFrom_57 (by decide) ?_
  refine G_aload_n (pc := 58) h.1 dX0_copyFrom_58 rfl 0 rfl ?_
  refine G_get (pc := 59) (v := .ref (y.2.1 (sI q0 10))) h.1 fl_X0_21 (ids_s hq0 6 (by decide)) (eS6 hq0 _) rfl dX0_copyFrom_59 ?_
  refine G_iconst (pc := 62) (v := (0)) h.1 dX0_copyFrom_62 (by decide) ?_
  refine G_bipush (pc := 63) (v := (60)) h.1 dX0_copyFrom_63 (by decide) ?_
  refine G_copy (pc := 65) h.1 h.2.2.1 mc_X0_35 (ids_s hq1 10 (by decide)) (ids_s hq0 10 (by decide)) (eS10 hq1 _) (fun m => eS10 hq0 m) (by decide) (by decide) dX0_copyFrom_65 (Nat.le_of_ble_eq_true rfl) (Nat.le_of_ble_eq_true rfl) (fun M5 => ?_)
  refine G_aload_n (pc := 68) h.1 dX0_copyFrom_68 rfl 1 rfl ?_
  refine G_get (pc := 69) (v := .ref (y.2.1 (sI q1 11))) h.1 fl_X0_24 (ids_s hq1 6 (by decide)) (eS6 hq1 _) rfl dX0_copyFrom_69 ?_
  refine G_iconst (pc := 72) (v := (0)) h.1 dX0_copyFrom_72 (by decide) ?_
  refine G_aload_n (pc := 73) h.1 dX0_copyFrom_73 rfl 0 rfl ?_
  refine G_get (pc := 74) (v := .ref (y.2.1 (sI q0 11))) h.1 fl_X0_24 (ids_s hq0 6 (by decide)) (eS6 hq0 _) rfl dX0_copyFrom_74 ?_
  refine G_iconst (pc := 77) (v := (0)) h.1 dX0_copyFrom_77 (by decide) ?_
  refine G_bipush (pc := 78) (v := (60)) h.1 dX0_copyFrom_78 (by decide) ?_
  refine G_copy (pc := 80) h.1 h.2.2.1 mc_X0_35 (ids_s hq1 11 (by decide)) (ids_s hq0 11 (by decide)) (eS11 hq1 _) (fun m => eS11 hq0 m) (by decide) (by decide) dX0_copyFrom_80 (Nat.le_of_ble_eq_true rfl) (Nat.le_of_ble_eq_true rfl) (fun M6 => ?_)
  exact G_vret (pc := 83) h dX0_copyFrom_83
theorem dX4_has_0 : decode cX4_has 0 = .ok (.iload_n 1, 1) := by decide +kernel
theorem dX4_has_1 : decode cX4_has 1 = .ok (.ifCond .lt 15, 3) := by decide +kernel
theorem dX4_has_4 : decode cX4_has 4 = .ok (.iload_n 1, 1) := by decide +kernel
theorem dX4_has_5 : decode cX4_has 5 = .ok (.aload_n 0, 1) := by decide +kernel
theorem dX4_has_6 : decode cX4_has 6 = .ok (.getfield 24, 3) := by decide +kernel
theorem dX4_has_9 : decode cX4_has 9 = .ok (.if_icmp .ge 7, 3) := by decide +kernel
theorem dX4_has_12 : decode cX4_has 12 = .ok (.iconst 1, 1) := by decide +kernel
theorem dX4_has_13 : decode cX4_has 13 = .ok (.goto 4, 3) := by decide +kernel
theorem dX4_has_16 : decode cX4_has 16 = .ok (.iconst 0, 1) := by decide +kernel
theorem dX4_has_17 : decode cX4_has 17 = .ok (.ireturn, 1) := by decide +kernel
abbrev rX4_has : Room := { frames := 0, cells := 0, slots := 0, locals := 0 }
set_option maxRecDepth 20000 in
theorem c_X4_has (l : Launch) (y : Cy) (hy : Inj y) (q0 : Nat) (hq0 : q0 < 7) (p1 : Int32) (M : Mem) : CT l y yX4_has cX4_has 2 (some .boolean) rX4_has [.ref (y.2.1 (sI q0 1)), .int p1] M (d_X4_has q0 p1 M) := by
  refine CT_of (by decide) hy (Nat.le_of_ble_eq_true rfl) (fun x hxl h => ?_)
  show G x y 0 [(0, .ref (y.2.1 (sI q0 1))), (1, .int p1)] [] M _
  unfold d_X4_has
  refine G_iload_n (pc := 0) h.1 dX4_has_0 rfl 1 rfl ?_
  refine G_if_lt (pc := 1) (tgt := 16) h.1 dX4_has_1 (by decide) ?_ ?_
  · refine G_iconst (pc := 16) (v := (0)) h.1 dX4_has_16 (by decide) ?_
    exact G_ret (pc := 17) h rfl dX4_has_17
  · refine G_iload_n (pc := 4) h.1 dX4_has_4 rfl 1 rfl ?_
    refine G_aload_n (pc := 5) h.1 dX4_has_5 rfl 0 rfl ?_
    refine G_get (pc := 6) (v := .int (M (sI q0 1) 0)) h.1 fl_X4_24 (ids_s hq0 1 (by decide)) (eS1 hq0 _) rfl dX4_has_6 ?_
    refine G_icmp_ge (pc := 9) (tgt := 16) h.1 dX4_has_9 (by decide) ?_ ?_
    · refine G_iconst (pc := 16) (v := (0)) h.1 dX4_has_16 (by decide) ?_
      exact G_ret (pc := 17) h rfl dX4_has_17
    · refine G_iconst (pc := 12) (v := (1)) h.1 dX4_has_12 (by decide) ?_
      refine G_goto (pc := 13) (tgt := 17) h.1 dX4_has_13 (by decide) ?_
      exact G_ret (pc := 17) h rfl dX4_has_17
theorem dX1_addRow_0 : decode cX1_addRow 0 = .ok (.aload_n 0, 1) := by decide +kernel
theorem dX1_addRow_1 : decode cX1_addRow 1 = .ok (.getfield 69, 3) := by decide +kernel
theorem dX1_addRow_4 : decode cX1_addRow 4 = .ok (.bipush 61, 2) := by decide +kernel
theorem dX1_addRow_6 : decode cX1_addRow 6 = .ok (.if_icmp .ge 14, 3) := by decide +kernel
theorem dX1_addRow_9 : decode cX1_addRow 9 = .ok (.aload_n 1, 1) := by decide +kernel
theorem dX1_addRow_10 : decode cX1_addRow 10 = .ok (.getfield 97, 3) := by decide +kernel
theorem dX1_addRow_13 : decode cX1_addRow 13 = .ok (.iload_n 3, 1) := by decide +kernel
theorem dX1_addRow_14 : decode cX1_addRow 14 = .ok (.invokevirtual 101, 3) := by decide +kernel
theorem dX1_addRow_17 : decode cX1_addRow 17 = .ok (.ifCond .ne 4, 3) := by decide +kernel
theorem dX1_addRow_20 : decode cX1_addRow 20 = .ok (.return_, 1) := by decide +kernel
theorem dX1_addRow_21 : decode cX1_addRow 21 = .ok (.aload_n 1, 1) := by decide +kernel
theorem dX1_addRow_22 : decode cX1_addRow 22 = .ok (.getfield 72, 3) := by decide +kernel
theorem dX1_addRow_25 : decode cX1_addRow 25 = .ok (.iload_n 2, 1) := by decide +kernel
theorem dX1_addRow_26 : decode cX1_addRow 26 = .ok (.invokevirtual 106, 3) := by decide +kernel
theorem dX1_addRow_29 : decode cX1_addRow 29 = .ok (.istore 5, 2) := by decide +kernel
theorem dX1_addRow_31 : decode cX1_addRow 31 = .ok (.aload_n 0, 1) := by decide +kernel
theorem dX1_addRow_32 : decode cX1_addRow 32 = .ok (.getfield 11, 3) := by decide +kernel
theorem dX1_addRow_35 : decode cX1_addRow 35 = .ok (.aload_n 0, 1) := by decide +kernel
theorem dX1_addRow_36 : decode cX1_addRow 36 = .ok (.getfield 69, 3) := by decide +kernel
theorem dX1_addRow_39 : decode cX1_addRow 39 = .ok (.iload_n 2, 1) := by decide +kernel
theorem dX1_addRow_40 : decode cX1_addRow 40 = .ok (.iastore, 1) := by decide +kernel
theorem dX1_addRow_41 : decode cX1_addRow 41 = .ok (.aload_n 0, 1) := by decide +kernel
theorem dX1_addRow_42 : decode cX1_addRow 42 = .ok (.getfield 15, 3) := by decide +kernel
theorem dX1_addRow_45 : decode cX1_addRow 45 = .ok (.aload_n 0, 1) := by decide +kernel
theorem dX1_addRow_46 : decode cX1_addRow 46 = .ok (.getfield 69, 3) := by decide +kernel
theorem dX1_addRow_49 : decode cX1_addRow 49 = .ok (.iload 5, 2) := by decide +kernel
theorem dX1_addRow_51 : decode cX1_addRow 51 = .ok (.ifCond .eq 15, 3) := by decide +kernel
theorem dX1_addRow_54 : decode cX1_addRow 54 = .ok (.aload_n 1, 1) := by decide +kernel
theorem dX1_addRow_55 : decode cX1_addRow 55 = .ok (.getfield 72, 3) := by decide +kernel
theorem dX1_addRow_58 : decode cX1_addRow 58 = .ok (.getfield 107, 3) := by decide +kernel
theorem dX1_addRow_61 : decode cX1_addRow 61 = .ok (.iload_n 2, 1) := by decide +kernel
theorem dX1_addRow_62 : decode cX1_addRow 62 = .ok (.iaload, 1) := by decide +kernel
theorem dX1_addRow_63 : decode cX1_addRow 63 = .ok (.goto 4, 3) := by decide +kernel
theorem dX1_addRow_66 : decode cX1_addRow 66 = .ok (.iconst 0, 1) := by decide +kernel
theorem dX1_addRow_67 : decode cX1_addRow 67 = .ok (.iastore, 1) := by decide +kernel
theorem dX1_addRow_68 : decode cX1_addRow 68 = .ok (.aload_n 0, 1) := by decide +kernel
theorem dX1_addRow_69 : decode cX1_addRow 69 = .ok (.getfield 18, 3) := by decide +kernel
theorem dX1_addRow_72 : decode cX1_addRow 72 = .ok (.aload_n 0, 1) := by decide +kernel
theorem dX1_addRow_73 : decode cX1_addRow 73 = .ok (.getfield 69, 3) := by decide +kernel
theorem dX1_addRow_76 : decode cX1_addRow 76 = .ok (.iload 5, 2) := by decide +kernel
theorem dX1_addRow_78 : decode cX1_addRow 78 = .ok (.ifCond .eq 15, 3) := by decide +kernel
theorem dX1_addRow_81 : decode cX1_addRow 81 = .ok (.aload_n 1, 1) := by decide +kernel
theorem dX1_addRow_82 : decode cX1_addRow 82 = .ok (.getfield 72, 3) := by decide +kernel
theorem dX1_addRow_85 : decode cX1_addRow 85 = .ok (.getfield 108, 3) := by decide +kernel
theorem dX1_addRow_88 : decode cX1_addRow 88 = .ok (.iload_n 2, 1) := by decide +kernel
theorem dX1_addRow_89 : decode cX1_addRow 89 = .ok (.iaload, 1) := by decide +kernel
theorem dX1_addRow_90 : decode cX1_addRow 90 = .ok (.goto 4, 3) := by decide +kernel
theorem dX1_addRow_93 : decode cX1_addRow 93 = .ok (.iconst 0, 1) := by decide +kernel
theorem dX1_addRow_94 : decode cX1_addRow 94 = .ok (.iastore, 1) := by decide +kernel
theorem dX1_addRow_95 : decode cX1_addRow 95 = .ok (.aload_n 0, 1) := by decide +kernel
theorem dX1_addRow_96 : decode cX1_addRow 96 = .ok (.getfield 21, 3) := by decide +kernel
theorem dX1_addRow_99 : decode cX1_addRow 99 = .ok (.aload_n 0, 1) := by decide +kernel
theorem dX1_addRow_100 : decode cX1_addRow 100 = .ok (.getfield 69, 3) := by decide +kernel
theorem dX1_addRow_103 : decode cX1_addRow 103 = .ok (.bipush (-5), 2) := by decide +kernel
theorem dX1_addRow_105 : decode cX1_addRow 105 = .ok (.iastore, 1) := by decide +kernel
theorem dX1_addRow_106 : decode cX1_addRow 106 = .ok (.aload_n 0, 1) := by decide +kernel
theorem dX1_addRow_107 : decode cX1_addRow 107 = .ok (.getfield 24, 3) := by decide +kernel
theorem dX1_addRow_110 : decode cX1_addRow 110 = .ok (.aload_n 0, 1) := by decide +kernel
theorem dX1_addRow_111 : decode cX1_addRow 111 = .ok (.getfield 69, 3) := by decide +kernel
theorem dX1_addRow_114 : decode cX1_addRow 114 = .ok (.ldc 62, 2) := by decide +kernel
theorem dX1_addRow_116 : decode cX1_addRow 116 = .ok (.iastore, 1) := by decide +kernel
theorem dX1_addRow_117 : decode cX1_addRow 117 = .ok (.aload_n 0, 1) := by decide +kernel
theorem dX1_addRow_118 : decode cX1_addRow 118 = .ok (.getfield 27, 3) := by decide +kernel
theorem dX1_addRow_121 : decode cX1_addRow 121 = .ok (.aload_n 0, 1) := by decide +kernel
theorem dX1_addRow_122 : decode cX1_addRow 122 = .ok (.getfield 69, 3) := by decide +kernel
theorem dX1_addRow_125 : decode cX1_addRow 125 = .ok (.aload_n 1, 1) := by decide +kernel
theorem dX1_addRow_126 : decode cX1_addRow 126 = .ok (.getfield 97, 3) := by decide +kernel
theorem dX1_addRow_129 : decode cX1_addRow 129 = .ok (.getfield 109, 3) := by decide +kernel
theorem dX1_addRow_132 : decode cX1_addRow 132 = .ok (.iload_n 3, 1) := by decide +kernel
theorem dX1_addRow_133 : decode cX1_addRow 133 = .ok (.iaload, 1) := by decide +kernel
theorem dX1_addRow_134 : decode cX1_addRow 134 = .ok (.iastore, 1) := by decide +kernel
theorem dX1_addRow_135 : decode cX1_addRow 135 = .ok (.aload_n 0, 1) := by decide +kernel
theorem dX1_addRow_136 : decode cX1_addRow 136 = .ok (.getfield 30, 3) := by decide +kernel
theorem dX1_addRow_139 : decode cX1_addRow 139 = .ok (.aload_n 0, 1) := by decide +kernel
theorem dX1_addRow_140 : decode cX1_addRow 140 = .ok (.getfield 69, 3) := by decide +kernel
theorem dX1_addRow_143 : decode cX1_addRow 143 = .ok (.aload_n 1, 1) := by decide +kernel
theorem dX1_addRow_144 : decode cX1_addRow 144 = .ok (.getfield 97, 3) := by decide +kernel
theorem dX1_addRow_147 : decode cX1_addRow 147 = .ok (.getfield 110, 3) := by decide +kernel
theorem dX1_addRow_150 : decode cX1_addRow 150 = .ok (.iload_n 3, 1) := by decide +kernel
theorem dX1_addRow_151 : decode cX1_addRow 151 = .ok (.iaload, 1) := by decide +kernel
theorem dX1_addRow_152 : decode cX1_addRow 152 = .ok (.iastore, 1) := by decide +kernel
theorem dX1_addRow_153 : decode cX1_addRow 153 = .ok (.aload_n 0, 1) := by decide +kernel
theorem dX1_addRow_154 : decode cX1_addRow 154 = .ok (.getfield 33, 3) := by decide +kernel
theorem dX1_addRow_157 : decode cX1_addRow 157 = .ok (.aload_n 0, 1) := by decide +kernel
theorem dX1_addRow_158 : decode cX1_addRow 158 = .ok (.getfield 69, 3) := by decide +kernel
theorem dX1_addRow_161 : decode cX1_addRow 161 = .ok (.iload 4, 2) := by decide +kernel
theorem dX1_addRow_163 : decode cX1_addRow 163 = .ok (.iastore, 1) := by decide +kernel
theorem dX1_addRow_164 : decode cX1_addRow 164 = .ok (.aload_n 0, 1) := by decide +kernel
theorem dX1_addRow_165 : decode cX1_addRow 165 = .ok (.getfield 36, 3) := by decide +kernel
theorem dX1_addRow_168 : decode cX1_addRow 168 = .ok (.aload_n 0, 1) := by decide +kernel
theorem dX1_addRow_169 : decode cX1_addRow 169 = .ok (.getfield 69, 3) := by decide +kernel
theorem dX1_addRow_172 : decode cX1_addRow 172 = .ok (.iload 4, 2) := by decide +kernel
theorem dX1_addRow_174 : decode cX1_addRow 174 = .ok (.aload_n 1, 1) := by decide +kernel
theorem dX1_addRow_175 : decode cX1_addRow 175 = .ok (.getfield 97, 3) := by decide +kernel
theorem dX1_addRow_178 : decode cX1_addRow 178 = .ok (.getfield 111, 3) := by decide +kernel
theorem dX1_addRow_181 : decode cX1_addRow 181 = .ok (.iload_n 3, 1) := by decide +kernel
theorem dX1_addRow_182 : decode cX1_addRow 182 = .ok (.iaload, 1) := by decide +kernel
theorem dX1_addRow_183 : decode cX1_addRow 183 = .ok (.iadd, 1) := by decide +kernel
theorem dX1_addRow_184 : decode cX1_addRow 184 = .ok (.iconst 1, 1) := by decide +kernel
theorem dX1_addRow_185 : decode cX1_addRow 185 = .ok (.isub, 1) := by decide +kernel
theorem dX1_addRow_186 : decode cX1_addRow 186 = .ok (.iastore, 1) := by decide +kernel
theorem dX1_addRow_187 : decode cX1_addRow 187 = .ok (.aload_n 0, 1) := by decide +kernel
theorem dX1_addRow_188 : decode cX1_addRow 188 = .ok (.dup, 1) := by decide +kernel
theorem dX1_addRow_189 : decode cX1_addRow 189 = .ok (.getfield 69, 3) := by decide +kernel
theorem dX1_addRow_192 : decode cX1_addRow 192 = .ok (.iconst 1, 1) := by decide +kernel
theorem dX1_addRow_193 : decode cX1_addRow 193 = .ok (.iadd, 1) := by decide +kernel
theorem dX1_addRow_194 : decode cX1_addRow 194 = .ok (.putfield 69, 3) := by decide +kernel
theorem dX1_addRow_197 : decode cX1_addRow 197 = .ok (.return_, 1) := by decide +kernel
abbrev rX1_addRow : Room := { frames := 1, cells := 0, slots := 0, locals := 21 }
set_option maxRecDepth 20000 in
theorem gd_X1_addRow_B94 {x : Cx} {y : Cy} (hy : Inj y) (h : OkM x y cX1_addRow RX1 6 none rX1_addRow) (q0 : Nat) (q1 : Nat) (hq0 : q0 < 2) (hq1 : q1 < 7) (a3 : Int32) (a4 : Int32) (s0 : Int32) (s1 : Int32) (M : Mem) : G x y 94 [(0, .ref (y.2.1 (cI q0 0))), (1, .ref (y.2.1 (sI q1 0))), (3, .int a3), (4, .int a4)] [.int s0, .int s1, .ref (y.2.1 (cI q0 3))] M (d_X1_addRow_B94 q0 q1 a3 a4 s0 s1 M) := by
  unfold d_X1_addRow_B94
  refine G_iast (pc := 94) h.1 (ids_c hq0 3 (by decide)) (fun m => eC3 hq0 m) dX1_addRow_94 (fun M7 => ?_)
  refine G_aload_n (pc := 95) h.1 dX1_addRow_95 rfl 0 rfl ?_
  refine G_get (pc := 96) (v := .ref (y.2.1 (cI q0 4))) h.1 fl_X1_21 (ids_c hq0 0 (by decide)) (eC0 hq0 _) rfl dX1_addRow_96 ?_
  refine G_aload_n (pc := 99) h.1 dX1_addRow_99 rfl 0 rfl ?_
  refine G_get (pc := 100) (v := .int (M7 (cI q0 0) 6)) h.1 fl_X1_69 (ids_c hq0 0 (by decide)) (eC0 hq0 _) rfl dX1_addRow_100 ?_
  refine G_bipush (pc := 103) (v := (-5)) h.1 dX1_addRow_103 (by decide) ?_
  refine G_iast (pc := 105) h.1 (ids_c hq0 4 (by decide)) (fun m => eC4 hq0 m) dX1_addRow_105 (fun M8 => ?_)
  refine G_aload_n (pc := 106) h.1 dX1_addRow_106 rfl 0 rfl ?_
  refine G_get (pc := 107) (v := .ref (y.2.1 (cI q0 5))) h.1 fl_X1_24 (ids_c hq0 0 (by decide)) (eC0 hq0 _) rfl dX1_addRow_107 ?_
  refine G_aload_n (pc := 110) h.1 dX1_addRow_110 rfl 0 rfl ?_
  refine G_get (pc := 111) (v := .int (M8 (cI q0 0) 6)) h.1 fl_X1_69 (ids_c hq0 0 (by decide)) (eC0 hq0 _) rfl dX1_addRow_111 ?_
  refine G_ldc (pc := 114) h.1 dX1_addRow_114 ct_X1_62 ?_
  refine G_iast (pc := 116) h.1 (ids_c hq0 5 (by decide)) (fun m => eC5 hq0 m) dX1_addRow_116 (fun M9 => ?_)
  refine G_aload_n (pc := 117) h.1 dX1_addRow_117 rfl 0 rfl ?_
  refine G_get (pc := 118) (v := .ref (y.2.1 (cI q0 6))) h.1 fl_X1_27 (ids_c hq0 0 (by decide)) (eC0 hq0 _) rfl dX1_addRow_118 ?_
  refine G_aload_n (pc := 121) h.1 dX1_addRow_121 rfl 0 rfl ?_
  refine G_get (pc := 122) (v := .int (M9 (cI q0 0) 6)) h.1 fl_X1_69 (ids_c hq0 0 (by decide)) (eC0 hq0 _) rfl dX1_addRow_122 ?_
  refine G_aload_n (pc := 125) h.1 dX1_addRow_125 rfl 1 rfl ?_
  refine G_get (pc := 126) (v := .ref (y.2.1 (sI q1 1))) h.1 fl_X1_97 (ids_s hq1 0 (by decide)) (eS0 hq1 _) rfl dX1_addRow_126 ?_
  refine G_get (pc := 129) (v := .ref (y.2.1 (sI q1 2))) h.1 fl_X1_109 (ids_s hq1 1 (by decide)) (eS1 hq1 _) rfl dX1_addRow_129 ?_
  refine G_iload_n (pc := 132) h.1 dX1_addRow_132 rfl 2 rfl ?_
  refine G_iald (pc := 133) h.1 (ids_s hq1 2 (by decide)) (eS2 hq1 _) dX1_addRow_133 ?_
  refine G_iast (pc := 134) h.1 (ids_c hq0 6 (by decide)) (fun m => eC6 hq0 m) dX1_addRow_134 (fun M10 => ?_)
  refine G_aload_n (pc := 135) h.1 dX1_addRow_135 rfl 0 rfl ?_
  refine G_get (pc := 136) (v := .ref (y.2.1 (cI q0 7))) h.1 fl_X1_30 (ids_c hq0 0 (by decide)) (eC0 hq0 _) rfl dX1_addRow_136 ?_
  refine G_aload_n (pc := 139) h.1 dX1_addRow_139 rfl 0 rfl ?_
  refine G_get (pc := 140) (v := .int (M10 (cI q0 0) 6)) h.1 fl_X1_69 (ids_c hq0 0 (by decide)) (eC0 hq0 _) rfl dX1_addRow_140 ?_
  refine G_aload_n (pc := 143) h.1 dX1_addRow_143 rfl 1 rfl ?_
  refine G_get (pc := 144) (v := .ref (y.2.1 (sI q1 1))) h.1 fl_X1_97 (ids_s hq1 0 (by decide)) (eS0 hq1 _) rfl dX1_addRow_144 ?_
  refine G_get (pc := 147) (v := .ref (y.2.1 (sI q1 3))) h.1 fl_X1_110 (ids_s hq1 1 (by decide)) (eS1 hq1 _) rfl dX1_addRow_147 ?_
  refine G_iload_n (pc := 150) h.1 dX1_addRow_150 rfl 2 rfl ?_
  refine G_iald (pc := 151) h.1 (ids_s hq1 3 (by decide)) (eS3 hq1 _) dX1_addRow_151 ?_
  refine G_iast (pc := 152) h.1 (ids_c hq0 7 (by decide)) (fun m => eC7 hq0 m) dX1_addRow_152 (fun M11 => ?_)
  refine G_aload_n (pc := 153) h.1 dX1_addRow_153 rfl 0 rfl ?_
  refine G_get (pc := 154) (v := .ref (y.2.1 (cI q0 8))) h.1 fl_X1_33 (ids_c hq0 0 (by decide)) (eC0 hq0 _) rfl dX1_addRow_154 ?_
  refine G_aload_n (pc := 157) h.1 dX1_addRow_157 rfl 0 rfl ?_
  refine G_get (pc := 158) (v := .int (M11 (cI q0 0) 6)) h.1 fl_X1_69 (ids_c hq0 0 (by decide)) (eC0 hq0 _) rfl dX1_addRow_158 ?_
  refine G_iload (pc := 161) h.1 dX1_addRow_161 3 rfl ?_
  refine G_iast (pc := 163) h.1 (ids_c hq0 8 (by decide)) (fun m => eC8 hq0 m) dX1_addRow_163 (fun M12 => ?_)
  refine G_aload_n (pc := 164) h.1 dX1_addRow_164 rfl 0 rfl ?_
  refine G_get (pc := 165) (v := .ref (y.2.1 (cI q0 9))) h.1 fl_X1_36 (ids_c hq0 0 (by decide)) (eC0 hq0 _) rfl dX1_addRow_165 ?_
  refine G_aload_n (pc := 168) h.1 dX1_addRow_168 rfl 0 rfl ?_
  refine G_get (pc := 169) (v := .int (M12 (cI q0 0) 6)) h.1 fl_X1_69 (ids_c hq0 0 (by decide)) (eC0 hq0 _) rfl dX1_addRow_169 ?_
  refine G_iload (pc := 172) h.1 dX1_addRow_172 3 rfl ?_
  refine G_aload_n (pc := 174) h.1 dX1_addRow_174 rfl 1 rfl ?_
  refine G_get (pc := 175) (v := .ref (y.2.1 (sI q1 1))) h.1 fl_X1_97 (ids_s hq1 0 (by decide)) (eS0 hq1 _) rfl dX1_addRow_175 ?_
  refine G_get (pc := 178) (v := .ref (y.2.1 (sI q1 4))) h.1 fl_X1_111 (ids_s hq1 1 (by decide)) (eS1 hq1 _) rfl dX1_addRow_178 ?_
  refine G_iload_n (pc := 181) h.1 dX1_addRow_181 rfl 2 rfl ?_
  refine G_iald (pc := 182) h.1 (ids_s hq1 4 (by decide)) (eS4 hq1 _) dX1_addRow_182 ?_
  refine G_iadd (pc := 183) h.1 dX1_addRow_183 ?_
  refine G_iconst (pc := 184) (v := (1)) h.1 dX1_addRow_184 (by decide) ?_
  refine G_isub (pc := 185) h.1 dX1_addRow_185 ?_
  refine G_iast (pc := 186) h.1 (ids_c hq0 9 (by decide)) (fun m => eC9 hq0 m) dX1_addRow_186 (fun M13 => ?_)
  refine G_aload_n (pc := 187) h.1 dX1_addRow_187 rfl 0 rfl ?_
  refine G_dup (pc := 188) h.1 dX1_addRow_188 rfl ?_
  refine G_get (pc := 189) (v := .int (M13 (cI q0 0) 6)) h.1 fl_X1_69 (ids_c hq0 0 (by decide)) (eC0 hq0 _) rfl dX1_addRow_189 ?_
  refine G_iconst (pc := 192) (v := (1)) h.1 dX1_addRow_192 (by decide) ?_
  refine G_iadd (pc := 193) h.1 dX1_addRow_193 ?_
  refine G_put (pc := 194) h.1 fp_X1_69 (ids_c hq0 0 (by decide)) (fun m => eC0 hq0 m) (fun _ => rfl) (fun _ => Nat.le_of_ble_eq_true rfl) rfl rfl dX1_addRow_194 (fun M14 => ?_)
  exact G_vret (pc := 197) h dX1_addRow_197
set_option maxRecDepth 20000 in
theorem gd_X1_addRow_B67 {x : Cx} {y : Cy} (hy : Inj y) (h : OkM x y cX1_addRow RX1 6 none rX1_addRow) (q0 : Nat) (q1 : Nat) (hq0 : q0 < 2) (hq1 : q1 < 7) (a2 : Int32) (a3 : Int32) (a4 : Int32) (a5 : Int32) (s0 : Int32) (s1 : Int32) (M : Mem) : G x y 67 [(0, .ref (y.2.1 (cI q0 0))), (1, .ref (y.2.1 (sI q1 0))), (2, .int a2), (3, .int a3), (4, .int a4), (5, .int a5)] [.int s0, .int s1, .ref (y.2.1 (cI q0 2))] M (d_X1_addRow_B67 q0 q1 a2 a3 a4 a5 s0 s1 M) := by
  unfold d_X1_addRow_B67
  refine G_iast (pc := 67) h.1 (ids_c hq0 2 (by decide)) (fun m => eC2 hq0 m) dX1_addRow_67 (fun M6 => ?_)
  refine G_aload_n (pc := 68) h.1 dX1_addRow_68 rfl 0 rfl ?_
  refine G_get (pc := 69) (v := .ref (y.2.1 (cI q0 3))) h.1 fl_X1_18 (ids_c hq0 0 (by decide)) (eC0 hq0 _) rfl dX1_addRow_69 ?_
  refine G_aload_n (pc := 72) h.1 dX1_addRow_72 rfl 0 rfl ?_
  refine G_get (pc := 73) (v := .int (M6 (cI q0 0) 6)) h.1 fl_X1_69 (ids_c hq0 0 (by decide)) (eC0 hq0 _) rfl dX1_addRow_73 ?_
  refine G_iload (pc := 76) h.1 dX1_addRow_76 5 rfl ?_
  refine G_if_eq (pc := 78) (tgt := 93) h.1 dX1_addRow_78 (by decide) ?_ ?_
  · refine G_iconst (pc := 93) (v := (0)) h.1 dX1_addRow_93 (by decide) ?_
    exact G_sub [0, 1, 3, 4] rfl (gd_X1_addRow_B94 hy h q0 q1 hq0 hq1 a3 a4 (0 : Int32) (M6 (cI q0 0) 6) M6)
  · refine G_aload_n (pc := 81) h.1 dX1_addRow_81 rfl 1 rfl ?_
    refine G_get (pc := 82) (v := .ref (y.2.1 (sI q1 6))) h.1 fl_X1_72 (ids_s hq1 0 (by decide)) (eS0 hq1 _) rfl dX1_addRow_82 ?_
    refine G_get (pc := 85) (v := .ref (y.2.1 (sI q1 11))) h.1 fl_X1_108 (ids_s hq1 6 (by decide)) (eS6 hq1 _) rfl dX1_addRow_85 ?_
    refine G_iload_n (pc := 88) h.1 dX1_addRow_88 rfl 2 rfl ?_
    refine G_iald (pc := 89) h.1 (ids_s hq1 11 (by decide)) (eS11 hq1 _) dX1_addRow_89 ?_
    refine G_goto (pc := 90) (tgt := 94) h.1 dX1_addRow_90 (by decide) ?_
    exact G_sub [0, 1, 3, 4] rfl (gd_X1_addRow_B94 hy h q0 q1 hq0 hq1 a3 a4 (M6 (sI q1 11) (a2).toNatClampNeg) (M6 (cI q0 0) 6) M6)
set_option maxRecDepth 20000 in
theorem c_X1_addRow (l : Launch) (y : Cy) (hy : Inj y) (q0 : Nat) (q1 : Nat) (hq0 : q0 < 2) (hq1 : q1 < 7) (p2 : Int32) (p3 : Int32) (p4 : Int32) (M : Mem) : CT l y yX1_addRow cX1_addRow 6 none rX1_addRow [.ref (y.2.1 (cI q0 0)), .ref (y.2.1 (sI q1 0)), .int p2, .int p3, .int p4] M (d_X1_addRow q0 q1 p2 p3 p4 M) := by
  refine CT_of (by decide) hy (Nat.le_of_ble_eq_true rfl) (fun x hxl h => ?_)
  show G x y 0 [(0, .ref (y.2.1 (cI q0 0))), (1, .ref (y.2.1 (sI q1 0))), (2, .int p2), (3, .int p3), (4, .int p4)] [] M _
  unfold d_X1_addRow
  refine G_aload_n (pc := 0) h.1 dX1_addRow_0 rfl 0 rfl ?_
  refine G_get (pc := 1) (v := .int (M (cI q0 0) 6)) h.1 fl_X1_69 (ids_c hq0 0 (by decide)) (eC0 hq0 _) rfl dX1_addRow_1 ?_
  refine G_bipush (pc := 4) (v := (61)) h.1 dX1_addRow_4 (by decide) ?_
  refine G_icmp_ge (pc := 6) (tgt := 20) h.1 dX1_addRow_6 (by decide) ?_ ?_
  · exact G_vret (pc := 20) h dX1_addRow_20
  · refine G_aload_n (pc := 9) h.1 dX1_addRow_9 rfl 1 rfl ?_
    refine G_get (pc := 10) (v := .ref (y.2.1 (sI q1 1))) h.1 fl_X1_97 (ids_s hq1 0 (by decide)) (eS0 hq1 _) rfl dX1_addRow_10 ?_
    refine G_iload_n (pc := 13) h.1 dX1_addRow_13 rfl 3 rfl ?_
    refine G_callV (pc := 14) (As := [.int p3]) (rest := []) h.1 h.2.2.1 lk_X1_101 (ids_s hq1 1 (by decide)) (eS1 hq1 _) rfl rfl (c_X4_has x.1.2.1 y hy q1 hq1 p3 M) rfl rfl (Nat.le_of_ble_eq_true rfl) ⟨rfl, rfl, Nat.le_of_ble_eq_true rfl, Nat.le_of_ble_eq_true rfl⟩ dX1_addRow_14 (fun r2 M1 => ?_)
    refine G_if_ne (pc := 17) (tgt := 21) h.1 dX1_addRow_17 (by decide) ?_ ?_
    · refine G_aload_n (pc := 21) h.1 dX1_addRow_21 rfl 1 rfl ?_
      refine G_get (pc := 22) (v := .ref (y.2.1 (sI q1 6))) h.1 fl_X1_72 (ids_s hq1 0 (by decide)) (eS0 hq1 _) rfl dX1_addRow_22 ?_
      refine G_iload_n (pc := 25) h.1 dX1_addRow_25 rfl 2 rfl ?_
      refine G_callV (pc := 26) (As := [.int p2]) (rest := []) h.1 h.2.2.1 lk_X1_106 (ids_s hq1 6 (by decide)) (eS6 hq1 _) rfl rfl (c_X0_has x.1.2.1 y hy q1 hq1 p2 M1) rfl rfl (Nat.le_of_ble_eq_true rfl) ⟨rfl, rfl, Nat.le_of_ble_eq_true rfl, Nat.le_of_ble_eq_true rfl⟩ dX1_addRow_26 (fun r4 M3 => ?_)
      refine G_istore (pc := 29) h.1 h.2.1 [(5, .int r4), (0, .ref (y.2.1 (cI q0 0))), (1, .ref (y.2.1 (sI q1 0))), (2, .int p2), (3, .int p3), (4, .int p4)] dX1_addRow_29 (by decide) rfl ?_
      refine G_aload_n (pc := 31) h.1 dX1_addRow_31 rfl 1 rfl ?_
      refine G_get (pc := 32) (v := .ref (y.2.1 (cI q0 1))) h.1 fl_X1_11 (ids_c hq0 0 (by decide)) (eC0 hq0 _) rfl dX1_addRow_32 ?_
      refine G_aload_n (pc := 35) h.1 dX1_addRow_35 rfl 1 rfl ?_
      refine G_get (pc := 36) (v := .int (M3 (cI q0 0) 6)) h.1 fl_X1_69 (ids_c hq0 0 (by decide)) (eC0 hq0 _) rfl dX1_addRow_36 ?_
      refine G_iload_n (pc := 39) h.1 dX1_addRow_39 rfl 3 rfl ?_
      refine G_iast (pc := 40) h.1 (ids_c hq0 1 (by decide)) (fun m => eC1 hq0 m) dX1_addRow_40 (fun M5 => ?_)
      refine G_aload_n (pc := 41) h.1 dX1_addRow_41 rfl 1 rfl ?_
      refine G_get (pc := 42) (v := .ref (y.2.1 (cI q0 2))) h.1 fl_X1_15 (ids_c hq0 0 (by decide)) (eC0 hq0 _) rfl dX1_addRow_42 ?_
      refine G_aload_n (pc := 45) h.1 dX1_addRow_45 rfl 1 rfl ?_
      refine G_get (pc := 46) (v := .int (M5 (cI q0 0) 6)) h.1 fl_X1_69 (ids_c hq0 0 (by decide)) (eC0 hq0 _) rfl dX1_addRow_46 ?_
      refine G_iload (pc := 49) h.1 dX1_addRow_49 0 rfl ?_
      refine G_if_eq (pc := 51) (tgt := 66) h.1 dX1_addRow_51 (by decide) ?_ ?_
      · refine G_iconst (pc := 66) (v := (0)) h.1 dX1_addRow_66 (by decide) ?_
        exact G_sub [1, 2, 3, 4, 5, 0] rfl (gd_X1_addRow_B67 hy h q0 q1 hq0 hq1 p2 p3 p4 r4 (0 : Int32) (M5 (cI q0 0) 6) M5)
      · refine G_aload_n (pc := 54) h.1 dX1_addRow_54 rfl 2 rfl ?_
        refine G_get (pc := 55) (v := .ref (y.2.1 (sI q1 6))) h.1 fl_X1_72 (ids_s hq1 0 (by decide)) (eS0 hq1 _) rfl dX1_addRow_55 ?_
        refine G_get (pc := 58) (v := .ref (y.2.1 (sI q1 10))) h.1 fl_X1_107 (ids_s hq1 6 (by decide)) (eS6 hq1 _) rfl dX1_addRow_58 ?_
        refine G_iload_n (pc := 61) h.1 dX1_addRow_61 rfl 3 rfl ?_
        refine G_iald (pc := 62) h.1 (ids_s hq1 10 (by decide)) (eS10 hq1 _) dX1_addRow_62 ?_
        refine G_goto (pc := 63) (tgt := 67) h.1 dX1_addRow_63 (by decide) ?_
        exact G_sub [1, 2, 3, 4, 5, 0] rfl (gd_X1_addRow_B67 hy h q0 q1 hq0 hq1 p2 p3 p4 r4 (M5 (sI q1 10) (p2).toNatClampNeg) (M5 (cI q0 0) 6) M5)
    · exact G_vret (pc := 20) h dX1_addRow_20
theorem dX1_beginWith_0 : decode cX1_beginWith 0 = .ok (.aload_n 0, 1) := by decide +kernel
theorem dX1_beginWith_1 : decode cX1_beginWith 1 = .ok (.aload_n 1, 1) := by decide +kernel
theorem dX1_beginWith_2 : decode cX1_beginWith 2 = .ok (.getfield 43, 3) := by decide +kernel
theorem dX1_beginWith_5 : decode cX1_beginWith 5 = .ok (.putfield 49, 3) := by decide +kernel
theorem dX1_beginWith_8 : decode cX1_beginWith 8 = .ok (.aload_n 0, 1) := by decide +kernel
theorem dX1_beginWith_9 : decode cX1_beginWith 9 = .ok (.aload_n 1, 1) := by decide +kernel
theorem dX1_beginWith_10 : decode cX1_beginWith 10 = .ok (.getfield 50, 3) := by decide +kernel
theorem dX1_beginWith_13 : decode cX1_beginWith 13 = .ok (.putfield 53, 3) := by decide +kernel
theorem dX1_beginWith_16 : decode cX1_beginWith 16 = .ok (.aload_n 0, 1) := by decide +kernel
theorem dX1_beginWith_17 : decode cX1_beginWith 17 = .ok (.aload_n 1, 1) := by decide +kernel
theorem dX1_beginWith_18 : decode cX1_beginWith 18 = .ok (.getfield 54, 3) := by decide +kernel
theorem dX1_beginWith_21 : decode cX1_beginWith 21 = .ok (.putfield 57, 3) := by decide +kernel
theorem dX1_beginWith_24 : decode cX1_beginWith 24 = .ok (.aload_n 0, 1) := by decide +kernel
theorem dX1_beginWith_25 : decode cX1_beginWith 25 = .ok (.aload_n 1, 1) := by decide +kernel
theorem dX1_beginWith_26 : decode cX1_beginWith 26 = .ok (.getfield 58, 3) := by decide +kernel
theorem dX1_beginWith_29 : decode cX1_beginWith 29 = .ok (.putfield 61, 3) := by decide +kernel
theorem dX1_beginWith_32 : decode cX1_beginWith 32 = .ok (.aload_n 0, 1) := by decide +kernel
theorem dX1_beginWith_33 : decode cX1_beginWith 33 = .ok (.ldc 62, 2) := by decide +kernel
theorem dX1_beginWith_35 : decode cX1_beginWith 35 = .ok (.putfield 63, 3) := by decide +kernel
theorem dX1_beginWith_38 : decode cX1_beginWith 38 = .ok (.aload_n 0, 1) := by decide +kernel
theorem dX1_beginWith_39 : decode cX1_beginWith 39 = .ok (.iconst 0, 1) := by decide +kernel
theorem dX1_beginWith_40 : decode cX1_beginWith 40 = .ok (.putfield 66, 3) := by decide +kernel
theorem dX1_beginWith_43 : decode cX1_beginWith 43 = .ok (.aload_n 0, 1) := by decide +kernel
theorem dX1_beginWith_44 : decode cX1_beginWith 44 = .ok (.iconst 0, 1) := by decide +kernel
theorem dX1_beginWith_45 : decode cX1_beginWith 45 = .ok (.putfield 69, 3) := by decide +kernel
theorem dX1_beginWith_48 : decode cX1_beginWith 48 = .ok (.iconst 0, 1) := by decide +kernel
theorem dX1_beginWith_49 : decode cX1_beginWith 49 = .ok (.istore 5, 2) := by decide +kernel
theorem dX1_beginWith_51 : decode cX1_beginWith 51 = .ok (.iload 5, 2) := by decide +kernel
theorem dX1_beginWith_53 : decode cX1_beginWith 53 = .ok (.aload_n 1, 1) := by decide +kernel
theorem dX1_beginWith_54 : decode cX1_beginWith 54 = .ok (.getfield 72, 3) := by decide +kernel
theorem dX1_beginWith_57 : decode cX1_beginWith 57 = .ok (.getfield 76, 3) := by decide +kernel
theorem dX1_beginWith_60 : decode cX1_beginWith 60 = .ok (.if_icmp .ge 78, 3) := by decide +kernel
theorem dX1_beginWith_63 : decode cX1_beginWith 63 = .ok (.iload 5, 2) := by decide +kernel
theorem dX1_beginWith_65 : decode cX1_beginWith 65 = .ok (.iload_n 2, 1) := by decide +kernel
theorem dX1_beginWith_66 : decode cX1_beginWith 66 = .ok (.if_icmp .eq 45, 3) := by decide +kernel
theorem dX1_beginWith_69 : decode cX1_beginWith 69 = .ok (.aload_n 1, 1) := by decide +kernel
theorem dX1_beginWith_70 : decode cX1_beginWith 70 = .ok (.getfield 72, 3) := by decide +kernel
theorem dX1_beginWith_73 : decode cX1_beginWith 73 = .ok (.iload 5, 2) := by decide +kernel
theorem dX1_beginWith_75 : decode cX1_beginWith 75 = .ok (.invokevirtual 81, 3) := by decide +kernel
theorem dX1_beginWith_78 : decode cX1_beginWith 78 = .ok (.ifCond .eq 33, 3) := by decide +kernel
theorem dX1_beginWith_81 : decode cX1_beginWith 81 = .ok (.aload_n 0, 1) := by decide +kernel
theorem dX1_beginWith_82 : decode cX1_beginWith 82 = .ok (.aload_n 1, 1) := by decide +kernel
theorem dX1_beginWith_83 : decode cX1_beginWith 83 = .ok (.iload 5, 2) := by decide +kernel
theorem dX1_beginWith_85 : decode cX1_beginWith 85 = .ok (.aload_n 1, 1) := by decide +kernel
theorem dX1_beginWith_86 : decode cX1_beginWith 86 = .ok (.getfield 72, 3) := by decide +kernel
theorem dX1_beginWith_89 : decode cX1_beginWith 89 = .ok (.getfield 85, 3) := by decide +kernel
theorem dX1_beginWith_92 : decode cX1_beginWith 92 = .ok (.iload 5, 2) := by decide +kernel
theorem dX1_beginWith_94 : decode cX1_beginWith 94 = .ok (.iaload, 1) := by decide +kernel
theorem dX1_beginWith_95 : decode cX1_beginWith 95 = .ok (.aload_n 1, 1) := by decide +kernel
theorem dX1_beginWith_96 : decode cX1_beginWith 96 = .ok (.getfield 72, 3) := by decide +kernel
theorem dX1_beginWith_99 : decode cX1_beginWith 99 = .ok (.getfield 88, 3) := by decide +kernel
theorem dX1_beginWith_102 : decode cX1_beginWith 102 = .ok (.iload 5, 2) := by decide +kernel
theorem dX1_beginWith_104 : decode cX1_beginWith 104 = .ok (.iaload, 1) := by decide +kernel
theorem dX1_beginWith_105 : decode cX1_beginWith 105 = .ok (.invokevirtual 91, 3) := by decide +kernel
theorem dX1_beginWith_108 : decode cX1_beginWith 108 = .ok (.goto 24, 3) := by decide +kernel
theorem dX1_beginWith_111 : decode cX1_beginWith 111 = .ok (.iload 5, 2) := by decide +kernel
theorem dX1_beginWith_113 : decode cX1_beginWith 113 = .ok (.iload_n 2, 1) := by decide +kernel
theorem dX1_beginWith_114 : decode cX1_beginWith 114 = .ok (.if_icmp .ne 18, 3) := by decide +kernel
theorem dX1_beginWith_117 : decode cX1_beginWith 117 = .ok (.iload 4, 2) := by decide +kernel
theorem dX1_beginWith_119 : decode cX1_beginWith 119 = .ok (.iconst (-1), 1) := by decide +kernel
theorem dX1_beginWith_120 : decode cX1_beginWith 120 = .ok (.if_icmp .eq 12, 3) := by decide +kernel
theorem dX1_beginWith_123 : decode cX1_beginWith 123 = .ok (.aload_n 0, 1) := by decide +kernel
theorem dX1_beginWith_124 : decode cX1_beginWith 124 = .ok (.aload_n 1, 1) := by decide +kernel
theorem dX1_beginWith_125 : decode cX1_beginWith 125 = .ok (.iload_n 2, 1) := by decide +kernel
theorem dX1_beginWith_126 : decode cX1_beginWith 126 = .ok (.iload_n 3, 1) := by decide +kernel
theorem dX1_beginWith_127 : decode cX1_beginWith 127 = .ok (.iload 4, 2) := by decide +kernel
theorem dX1_beginWith_129 : decode cX1_beginWith 129 = .ok (.invokevirtual 91, 3) := by decide +kernel
theorem dX1_beginWith_132 : decode cX1_beginWith 132 = .ok (.iinc 5 1, 3) := by decide +kernel
theorem dX1_beginWith_135 : decode cX1_beginWith 135 = .ok (.goto (-84), 3) := by decide +kernel
theorem dX1_beginWith_138 : decode cX1_beginWith 138 = .ok (.iload_n 2, 1) := by decide +kernel
theorem dX1_beginWith_139 : decode cX1_beginWith 139 = .ok (.aload_n 1, 1) := by decide +kernel
theorem dX1_beginWith_140 : decode cX1_beginWith 140 = .ok (.getfield 72, 3) := by decide +kernel
theorem dX1_beginWith_143 : decode cX1_beginWith 143 = .ok (.getfield 76, 3) := by decide +kernel
theorem dX1_beginWith_146 : decode cX1_beginWith 146 = .ok (.if_icmp .lt 18, 3) := by decide +kernel
theorem dX1_beginWith_149 : decode cX1_beginWith 149 = .ok (.iload 4, 2) := by decide +kernel
theorem dX1_beginWith_151 : decode cX1_beginWith 151 = .ok (.iconst (-1), 1) := by decide +kernel
theorem dX1_beginWith_152 : decode cX1_beginWith 152 = .ok (.if_icmp .eq 12, 3) := by decide +kernel
theorem dX1_beginWith_155 : decode cX1_beginWith 155 = .ok (.aload_n 0, 1) := by decide +kernel
theorem dX1_beginWith_156 : decode cX1_beginWith 156 = .ok (.aload_n 1, 1) := by decide +kernel
theorem dX1_beginWith_157 : decode cX1_beginWith 157 = .ok (.iload_n 2, 1) := by decide +kernel
theorem dX1_beginWith_158 : decode cX1_beginWith 158 = .ok (.iload_n 3, 1) := by decide +kernel
theorem dX1_beginWith_159 : decode cX1_beginWith 159 = .ok (.iload 4, 2) := by decide +kernel
theorem dX1_beginWith_161 : decode cX1_beginWith 161 = .ok (.invokevirtual 91, 3) := by decide +kernel
theorem dX1_beginWith_164 : decode cX1_beginWith 164 = .ok (.aload_n 0, 1) := by decide +kernel
theorem dX1_beginWith_165 : decode cX1_beginWith 165 = .ok (.aload_n 0, 1) := by decide +kernel
theorem dX1_beginWith_166 : decode cX1_beginWith 166 = .ok (.getfield 69, 3) := by decide +kernel
theorem dX1_beginWith_169 : decode cX1_beginWith 169 = .ok (.putfield 94, 3) := by decide +kernel
theorem dX1_beginWith_172 : decode cX1_beginWith 172 = .ok (.return_, 1) := by decide +kernel
abbrev rX1_beginWith : Room := { frames := 2, cells := 0, slots := 0, locals := 46 }
set_option maxRecDepth 20000 in
theorem gd_X1_beginWith_B132 {x : Cx} {y : Cy} (hy : Inj y) (h : OkM x y cX1_beginWith RX1 6 none rX1_beginWith) (q0 : Nat) (q1 : Nat) (hq0 : q0 < 2) (hq1 : q1 < 7) (kx1 : Mem → Ans) (kb : Int32 → Mem → Ans) (a2 : Int32) (a3 : Int32) (a4 : Int32) (a5 : Int32) (hx1 : ∀ M0 : Mem, G x y 138 [(0, .ref (y.2.1 (cI q0 0))), (1, .ref (y.2.1 (sI q1 0))), (2, .int a2), (3, .int a3), (4, .int a4)] [] M0 (kx1 M0)) (hb : ∀ (b5 : Int32), ∀ M0 : Mem, G x y 51 [(0, .ref (y.2.1 (cI q0 0))), (1, .ref (y.2.1 (sI q1 0))), (2, .int a2), (3, .int a3), (4, .int a4), (5, .int b5)] [] M0 (kb b5 M0)) (M : Mem) : G x y 132 [(0, .ref (y.2.1 (cI q0 0))), (1, .ref (y.2.1 (sI q1 0))), (2, .int a2), (3, .int a3), (4, .int a4), (5, .int a5)] [] M (d_X1_beginWith_B132 q0 q1 kx1 kb a2 a3 a4 a5 M) := by
  unfold d_X1_beginWith_B132
  refine G_iinc (pc := 132) (v := a5 + (1)) h.1 h.2.1 (fun v8 => [(5, .int v8), (0, .ref (y.2.1 (cI q0 0))), (1, .ref (y.2.1 (sI q1 0))), (2, .int a2), (3, .int a3), (4, .int a4)]) dX1_beginWith_132 (by decide) 5 rfl rfl (fun _ => rfl) (fun v8 => ?_)
  refine G_goto (pc := 135) (tgt := 51) h.1 dX1_beginWith_135 (by decide) ?_
  exact G_sub [1, 2, 3, 4, 5, 0] rfl (hb v8 M)
set_option maxRecDepth 20000 in
theorem gd_X1_beginWith_B111 {x : Cx} {y : Cy} (hy : Inj y) (h : OkM x y cX1_beginWith RX1 6 none rX1_beginWith) (q0 : Nat) (q1 : Nat) (hq0 : q0 < 2) (hq1 : q1 < 7) (kx1 : Mem → Ans) (kb : Int32 → Mem → Ans) (a2 : Int32) (a3 : Int32) (a4 : Int32) (a5 : Int32) (hx1 : ∀ M0 : Mem, G x y 138 [(0, .ref (y.2.1 (cI q0 0))), (1, .ref (y.2.1 (sI q1 0))), (2, .int a2), (3, .int a3), (4, .int a4)] [] M0 (kx1 M0)) (hb : ∀ (b5 : Int32), ∀ M0 : Mem, G x y 51 [(0, .ref (y.2.1 (cI q0 0))), (1, .ref (y.2.1 (sI q1 0))), (2, .int a2), (3, .int a3), (4, .int a4), (5, .int b5)] [] M0 (kb b5 M0)) (M : Mem) : G x y 111 [(0, .ref (y.2.1 (cI q0 0))), (1, .ref (y.2.1 (sI q1 0))), (2, .int a2), (3, .int a3), (4, .int a4), (5, .int a5)] [] M (d_X1_beginWith_B111 q0 q1 kx1 kb a2 a3 a4 a5 M) := by
  unfold d_X1_beginWith_B111
  refine G_iload (pc := 111) h.1 dX1_beginWith_111 5 rfl ?_
  refine G_iload_n (pc := 113) h.1 dX1_beginWith_113 rfl 2 rfl ?_
  refine G_icmp_ne (pc := 114) (tgt := 132) h.1 dX1_beginWith_114 (by decide) ?_ ?_
  · exact G_sub [0, 1, 2, 3, 4, 5] rfl (gd_X1_beginWith_B132 hy h q0 q1 hq0 hq1 kx1 kb a2 a3 a4 a5 hx1 hb M)
  · refine G_iload (pc := 117) h.1 dX1_beginWith_117 4 rfl ?_
    refine G_iconst (pc := 119) (v := (-1)) h.1 dX1_beginWith_119 (by decide) ?_
    refine G_icmp_eq (pc := 120) (tgt := 132) h.1 dX1_beginWith_120 (by decide) ?_ ?_
    · exact G_sub [0, 1, 2, 3, 4, 5] rfl (gd_X1_beginWith_B132 hy h q0 q1 hq0 hq1 kx1 kb a2 a3 a4 a5 hx1 hb M)
    · refine G_aload_n (pc := 123) h.1 dX1_beginWith_123 rfl 0 rfl ?_
      refine G_aload_n (pc := 124) h.1 dX1_beginWith_124 rfl 1 rfl ?_
      refine G_iload_n (pc := 125) h.1 dX1_beginWith_125 rfl 2 rfl ?_
      refine G_iload_n (pc := 126) h.1 dX1_beginWith_126 rfl 3 rfl ?_
      refine G_iload (pc := 127) h.1 dX1_beginWith_127 4 rfl ?_
      refine G_callVv (pc := 129) (As := [.ref (y.2.1 (sI q1 0)), .int a2, .int a3, .int a4]) (rest := []) h.1 h.2.2.1 lk_X1_91 (ids_c hq0 0 (by decide)) (eC0 hq0 _) rfl rfl (c_X1_addRow x.1.2.1 y hy q0 q1 hq0 hq1 a2 a3 a4 M) rfl rfl (Nat.le_of_ble_eq_true rfl) ⟨rfl, rfl, Nat.le_of_ble_eq_true rfl, Nat.le_of_ble_eq_true rfl⟩ dX1_beginWith_129 (fun r10 M9 => ?_)
      exact G_sub [0, 1, 2, 3, 4, 5] rfl (gd_X1_beginWith_B132 hy h q0 q1 hq0 hq1 kx1 kb a2 a3 a4 a5 hx1 hb M9)
set_option maxRecDepth 20000 in
theorem gd_X1_beginWith_L51_body {x : Cx} {y : Cy} (hy : Inj y) (h : OkM x y cX1_beginWith RX1 6 none rX1_beginWith) (q0 : Nat) (q1 : Nat) (hq0 : q0 < 2) (hq1 : q1 < 7) (a2 : Int32) (a3 : Int32) (a4 : Int32) (kx1 : Mem → Ans) (hx1 : ∀ M0 : Mem, G x y 138 [(0, .ref (y.2.1 (cI q0 0))), (1, .ref (y.2.1 (sI q1 0))), (2, .int a2), (3, .int a3), (4, .int a4)] [] M0 (kx1 M0)) (kb : Int32 → Mem → Ans) (hb : ∀ (b5 : Int32), ∀ M0 : Mem, G x y 51 [(0, .ref (y.2.1 (cI q0 0))), (1, .ref (y.2.1 (sI q1 0))), (2, .int a2), (3, .int a3), (4, .int a4), (5, .int b5)] [] M0 (kb b5 M0)) (a5 : Int32) (M : Mem) : G x y 51 [(0, .ref (y.2.1 (cI q0 0))), (1, .ref (y.2.1 (sI q1 0))), (2, .int a2), (3, .int a3), (4, .int a4), (5, .int a5)] [] M (d_X1_beginWith_L51_body q0 q1 a2 a3 a4 kx1 kb a5 M) := by
  unfold d_X1_beginWith_L51_body
  refine G_iload (pc := 51) h.1 dX1_beginWith_51 5 rfl ?_
  refine G_aload_n (pc := 53) h.1 dX1_beginWith_53 rfl 1 rfl ?_
  refine G_get (pc := 54) (v := .ref (y.2.1 (sI q1 6))) h.1 fl_X1_72 (ids_s hq1 0 (by decide)) (eS0 hq1 _) rfl dX1_beginWith_54 ?_
  refine G_get (pc := 57) (v := .int (M (sI q1 6) 0)) h.1 fl_X1_76 (ids_s hq1 6 (by decide)) (eS6 hq1 _) rfl dX1_beginWith_57 ?_
  refine G_icmp_ge (pc := 60) (tgt := 138) h.1 dX1_beginWith_60 (by decide) ?_ ?_
  · exact G_sub [0, 1, 2, 3, 4] rfl (hx1 M)
  · refine G_iload (pc := 63) h.1 dX1_beginWith_63 5 rfl ?_
    refine G_iload_n (pc := 65) h.1 dX1_beginWith_65 rfl 2 rfl ?_
    refine G_icmp_eq (pc := 66) (tgt := 111) h.1 dX1_beginWith_66 (by decide) ?_ ?_
    · exact G_sub [0, 1, 2, 3, 4, 5] rfl (gd_X1_beginWith_B111 hy h q0 q1 hq0 hq1 kx1 kb a2 a3 a4 a5 hx1 hb M)
    · refine G_aload_n (pc := 69) h.1 dX1_beginWith_69 rfl 1 rfl ?_
      refine G_get (pc := 70) (v := .ref (y.2.1 (sI q1 6))) h.1 fl_X1_72 (ids_s hq1 0 (by decide)) (eS0 hq1 _) rfl dX1_beginWith_70 ?_
      refine G_iload (pc := 73) h.1 dX1_beginWith_73 5 rfl ?_
      refine G_callV (pc := 75) (As := [.int a5]) (rest := []) h.1 h.2.2.1 lk_X1_81 (ids_s hq1 6 (by decide)) (eS6 hq1 _) rfl rfl (c_X0_isOpen x.1.2.1 y hy q1 hq1 a5 M) rfl rfl (Nat.le_of_ble_eq_true rfl) ⟨rfl, rfl, Nat.le_of_ble_eq_true rfl, Nat.le_of_ble_eq_true rfl⟩ dX1_beginWith_75 (fun r12 M11 => ?_)
      refine G_if_eq (pc := 78) (tgt := 111) h.1 dX1_beginWith_78 (by decide) ?_ ?_
      · exact G_sub [0, 1, 2, 3, 4, 5] rfl (gd_X1_beginWith_B111 hy h q0 q1 hq0 hq1 kx1 kb a2 a3 a4 a5 hx1 hb M11)
      · refine G_aload_n (pc := 81) h.1 dX1_beginWith_81 rfl 0 rfl ?_
        refine G_aload_n (pc := 82) h.1 dX1_beginWith_82 rfl 1 rfl ?_
        refine G_iload (pc := 83) h.1 dX1_beginWith_83 5 rfl ?_
        refine G_aload_n (pc := 85) h.1 dX1_beginWith_85 rfl 1 rfl ?_
        refine G_get (pc := 86) (v := .ref (y.2.1 (sI q1 6))) h.1 fl_X1_72 (ids_s hq1 0 (by decide)) (eS0 hq1 _) rfl dX1_beginWith_86 ?_
        refine G_get (pc := 89) (v := .ref (y.2.1 (sI q1 8))) h.1 fl_X1_85 (ids_s hq1 6 (by decide)) (eS6 hq1 _) rfl dX1_beginWith_89 ?_
        refine G_iload (pc := 92) h.1 dX1_beginWith_92 5 rfl ?_
        refine G_iald (pc := 94) h.1 (ids_s hq1 8 (by decide)) (eS8 hq1 _) dX1_beginWith_94 ?_
        refine G_aload_n (pc := 95) h.1 dX1_beginWith_95 rfl 1 rfl ?_
        refine G_get (pc := 96) (v := .ref (y.2.1 (sI q1 6))) h.1 fl_X1_72 (ids_s hq1 0 (by decide)) (eS0 hq1 _) rfl dX1_beginWith_96 ?_
        refine G_get (pc := 99) (v := .ref (y.2.1 (sI q1 9))) h.1 fl_X1_88 (ids_s hq1 6 (by decide)) (eS6 hq1 _) rfl dX1_beginWith_99 ?_
        refine G_iload (pc := 102) h.1 dX1_beginWith_102 5 rfl ?_
        refine G_iald (pc := 104) h.1 (ids_s hq1 9 (by decide)) (eS9 hq1 _) dX1_beginWith_104 ?_
        refine G_callVv (pc := 105) (As := [.ref (y.2.1 (sI q1 0)), .int a5, .int (M11 (sI q1 8) (a5).toNatClampNeg), .int (M11 (sI q1 9) (a5).toNatClampNeg)]) (rest := []) h.1 h.2.2.1 lk_X1_91 (ids_c hq0 0 (by decide)) (eC0 hq0 _) rfl rfl (c_X1_addRow x.1.2.1 y hy q0 q1 hq0 hq1 a5 (M11 (sI q1 8) (a5).toNatClampNeg) (M11 (sI q1 9) (a5).toNatClampNeg) M11) rfl rfl (Nat.le_of_ble_eq_true rfl) ⟨rfl, rfl, Nat.le_of_ble_eq_true rfl, Nat.le_of_ble_eq_true rfl⟩ dX1_beginWith_105 (fun r14 M13 => ?_)
        refine G_goto (pc := 108) (tgt := 132) h.1 dX1_beginWith_108 (by decide) ?_
        exact G_sub [0, 1, 2, 3, 4, 5] rfl (gd_X1_beginWith_B132 hy h q0 q1 hq0 hq1 kx1 kb a2 a3 a4 a5 hx1 hb M13)
set_option maxRecDepth 20000 in
theorem gd_X1_beginWith_L51 {x : Cx} {y : Cy} (hy : Inj y) (h : OkM x y cX1_beginWith RX1 6 none rX1_beginWith) (q0 : Nat) (q1 : Nat) (hq0 : q0 < 2) (hq1 : q1 < 7) (a2 : Int32) (a3 : Int32) (a4 : Int32) (kx1 : Mem → Ans) (hx1 : ∀ M0 : Mem, G x y 138 [(0, .ref (y.2.1 (cI q0 0))), (1, .ref (y.2.1 (sI q1 0))), (2, .int a2), (3, .int a3), (4, .int a4)] [] M0 (kx1 M0)) : ∀ (n : Nat) (a5 : Int32) (M : Mem), G x y 51 [(0, .ref (y.2.1 (cI q0 0))), (1, .ref (y.2.1 (sI q1 0))), (2, .int a2), (3, .int a3), (4, .int a4), (5, .int a5)] [] M (d_X1_beginWith_L51 q0 q1 a2 a3 a4 kx1 n a5 M) := by
  intro n
  induction n with
  | zero => intro a5 M; exact G_none
  | succ n ih => intro a5 M; exact gd_X1_beginWith_L51_body hy h q0 q1 hq0 hq1 a2 a3 a4 kx1 hx1 _ ih a5 M
set_option maxRecDepth 20000 in
theorem gd_X1_beginWith_B164 {x : Cx} {y : Cy} (hy : Inj y) (h : OkM x y cX1_beginWith RX1 6 none rX1_beginWith) (q0 : Nat) (q1 : Nat) (hq0 : q0 < 2) (hq1 : q1 < 7) (M : Mem) : G x y 164 [(0, .ref (y.2.1 (cI q0 0)))] [] M (d_X1_beginWith_B164 q0 q1 M) := by
  unfold d_X1_beginWith_B164
  refine G_aload_n (pc := 164) h.1 dX1_beginWith_164 rfl 0 rfl ?_
  refine G_aload_n (pc := 165) h.1 dX1_beginWith_165 rfl 0 rfl ?_
  refine G_get (pc := 166) (v := .int (M (cI q0 0) 6)) h.1 fl_X1_69 (ids_c hq0 0 (by decide)) (eC0 hq0 _) rfl dX1_beginWith_166 ?_
  refine G_put (pc := 169) h.1 fp_X1_94 (ids_c hq0 0 (by decide)) (fun m => eC0 hq0 m) (fun _ => rfl) (fun _ => Nat.le_of_ble_eq_true rfl) rfl rfl dX1_beginWith_169 (fun M16 => ?_)
  exact G_vret (pc := 172) h dX1_beginWith_172
set_option maxRecDepth 20000 in
theorem c_X1_beginWith (l : Launch) (y : Cy) (hy : Inj y) (q0 : Nat) (q1 : Nat) (hq0 : q0 < 2) (hq1 : q1 < 7) (p2 : Int32) (p3 : Int32) (p4 : Int32) (M : Mem) : CT l y yX1_beginWith cX1_beginWith 6 none rX1_beginWith [.ref (y.2.1 (cI q0 0)), .ref (y.2.1 (sI q1 0)), .int p2, .int p3, .int p4] M (d_X1_beginWith q0 q1 p2 p3 p4 M) := by
  refine CT_of (by decide) hy (Nat.le_of_ble_eq_true rfl) (fun x hxl h => ?_)
  show G x y 0 [(0, .ref (y.2.1 (cI q0 0))), (1, .ref (y.2.1 (sI q1 0))), (2, .int p2), (3, .int p3), (4, .int p4)] [] M _
  unfold d_X1_beginWith
  refine G_aload_n (pc := 0) h.1 dX1_beginWith_0 rfl 0 rfl ?_
  refine G_aload_n (pc := 1) h.1 dX1_beginWith_1 rfl 1 rfl ?_
  refine G_get (pc := 2) (v := .int (M (sI q1 0) 0)) h.1 fl_X1_43 (ids_s hq1 0 (by decide)) (eS0 hq1 _) rfl dX1_beginWith_2 ?_
  refine G_put (pc := 5) h.1 fp_X1_49 (ids_c hq0 0 (by decide)) (fun m => eC0 hq0 m) (fun _ => rfl) (fun _ => Nat.le_of_ble_eq_true rfl) rfl rfl dX1_beginWith_5 (fun M1 => ?_)
  refine G_aload_n (pc := 8) h.1 dX1_beginWith_8 rfl 0 rfl ?_
  refine G_aload_n (pc := 9) h.1 dX1_beginWith_9 rfl 1 rfl ?_
  refine G_get (pc := 10) (v := .int (M1 (sI q1 0) 1)) h.1 fl_X1_50 (ids_s hq1 0 (by decide)) (eS0 hq1 _) rfl dX1_beginWith_10 ?_
  refine G_put (pc := 13) h.1 fp_X1_53 (ids_c hq0 0 (by decide)) (fun m => eC0 hq0 m) (fun _ => rfl) (fun _ => Nat.le_of_ble_eq_true rfl) rfl rfl dX1_beginWith_13 (fun M2 => ?_)
  refine G_aload_n (pc := 16) h.1 dX1_beginWith_16 rfl 0 rfl ?_
  refine G_aload_n (pc := 17) h.1 dX1_beginWith_17 rfl 1 rfl ?_
  refine G_get (pc := 18) (v := .int (M2 (sI q1 0) 2)) h.1 fl_X1_54 (ids_s hq1 0 (by decide)) (eS0 hq1 _) rfl dX1_beginWith_18 ?_
  refine G_put (pc := 21) h.1 fp_X1_57 (ids_c hq0 0 (by decide)) (fun m => eC0 hq0 m) (fun _ => rfl) (fun _ => Nat.le_of_ble_eq_true rfl) rfl rfl dX1_beginWith_21 (fun M3 => ?_)
  refine G_aload_n (pc := 24) h.1 dX1_beginWith_24 rfl 0 rfl ?_
  refine G_aload_n (pc := 25) h.1 dX1_beginWith_25 rfl 1 rfl ?_
  refine G_get (pc := 26) (v := .int (M3 (sI q1 0) 3)) h.1 fl_X1_58 (ids_s hq1 0 (by decide)) (eS0 hq1 _) rfl dX1_beginWith_26 ?_
  refine G_put (pc := 29) h.1 fp_X1_61 (ids_c hq0 0 (by decide)) (fun m => eC0 hq0 m) (fun _ => rfl) (fun _ => Nat.le_of_ble_eq_true rfl) rfl rfl dX1_beginWith_29 (fun M4 => ?_)
  refine G_aload_n (pc := 32) h.1 dX1_beginWith_32 rfl 0 rfl ?_
  refine G_ldc (pc := 33) h.1 dX1_beginWith_33 ct_X1_62 ?_
  refine G_put (pc := 35) h.1 fp_X1_63 (ids_c hq0 0 (by decide)) (fun m => eC0 hq0 m) (fun _ => rfl) (fun _ => Nat.le_of_ble_eq_true rfl) rfl rfl dX1_beginWith_35 (fun M5 => ?_)
  refine G_aload_n (pc := 38) h.1 dX1_beginWith_38 rfl 0 rfl ?_
  refine G_iconst (pc := 39) (v := (0)) h.1 dX1_beginWith_39 (by decide) ?_
  refine G_put (pc := 40) h.1 fp_X1_66 (ids_c hq0 0 (by decide)) (fun m => eC0 hq0 m) (fun _ => rfl) (fun _ => Nat.le_of_ble_eq_true rfl) rfl rfl dX1_beginWith_40 (fun M6 => ?_)
  refine G_aload_n (pc := 43) h.1 dX1_beginWith_43 rfl 0 rfl ?_
  refine G_iconst (pc := 44) (v := (0)) h.1 dX1_beginWith_44 (by decide) ?_
  refine G_put (pc := 45) h.1 fp_X1_69 (ids_c hq0 0 (by decide)) (fun m => eC0 hq0 m) (fun _ => rfl) (fun _ => Nat.le_of_ble_eq_true rfl) rfl rfl dX1_beginWith_45 (fun M7 => ?_)
  refine G_iconst (pc := 48) (v := (0)) h.1 dX1_beginWith_48 (by decide) ?_
  refine G_istore (pc := 49) h.1 h.2.1 [(5, .int (0 : Int32)), (0, .ref (y.2.1 (cI q0 0))), (1, .ref (y.2.1 (sI q1 0))), (2, .int p2), (3, .int p3), (4, .int p4)] dX1_beginWith_49 (by decide) rfl ?_
  refine G_sub [1, 2, 3, 4, 5, 0] rfl (gd_X1_beginWith_L51 hy h q0 q1 hq0 hq1 p2 p3 p4 _ (fun M15 => ?_) fuelN (0 : Int32) M7)
  refine G_iload_n (pc := 138) h.1 dX1_beginWith_138 rfl 2 rfl ?_
  refine G_aload_n (pc := 139) h.1 dX1_beginWith_139 rfl 1 rfl ?_
  refine G_get (pc := 140) (v := .ref (y.2.1 (sI q1 6))) h.1 fl_X1_72 (ids_s hq1 0 (by decide)) (eS0 hq1 _) rfl dX1_beginWith_140 ?_
  refine G_get (pc := 143) (v := .int (M15 (sI q1 6) 0)) h.1 fl_X1_76 (ids_s hq1 6 (by decide)) (eS6 hq1 _) rfl dX1_beginWith_143 ?_
  refine G_icmp_lt (pc := 146) (tgt := 164) h.1 dX1_beginWith_146 (by decide) ?_ ?_
  · exact G_sub [0] rfl (gd_X1_beginWith_B164 hy h q0 q1 hq0 hq1 M15)
  · refine G_iload (pc := 149) h.1 dX1_beginWith_149 4 rfl ?_
    refine G_iconst (pc := 151) (v := (-1)) h.1 dX1_beginWith_151 (by decide) ?_
    refine G_icmp_eq (pc := 152) (tgt := 164) h.1 dX1_beginWith_152 (by decide) ?_ ?_
    · exact G_sub [0] rfl (gd_X1_beginWith_B164 hy h q0 q1 hq0 hq1 M15)
    · refine G_aload_n (pc := 155) h.1 dX1_beginWith_155 rfl 0 rfl ?_
      refine G_aload_n (pc := 156) h.1 dX1_beginWith_156 rfl 1 rfl ?_
      refine G_iload_n (pc := 157) h.1 dX1_beginWith_157 rfl 2 rfl ?_
      refine G_iload_n (pc := 158) h.1 dX1_beginWith_158 rfl 3 rfl ?_
      refine G_iload (pc := 159) h.1 dX1_beginWith_159 4 rfl ?_
      refine G_callVv (pc := 161) (As := [.ref (y.2.1 (sI q1 0)), .int p2, .int p3, .int p4]) (rest := []) h.1 h.2.2.1 lk_X1_91 (ids_c hq0 0 (by decide)) (eC0 hq0 _) rfl rfl (c_X1_addRow x.1.2.1 y hy q0 q1 hq0 hq1 p2 p3 p4 M15) rfl rfl (Nat.le_of_ble_eq_true rfl) ⟨rfl, rfl, Nat.le_of_ble_eq_true rfl, Nat.le_of_ble_eq_true rfl⟩ dX1_beginWith_161 (fun r18 M17 => ?_)
      exact G_sub [0] rfl (gd_X1_beginWith_B164 hy h q0 q1 hq0 hq1 M17)
theorem dX1_begin_0 : decode cX1_begin 0 = .ok (.aload_n 0, 1) := by decide +kernel
theorem dX1_begin_1 : decode cX1_begin 1 = .ok (.aload_n 1, 1) := by decide +kernel
theorem dX1_begin_2 : decode cX1_begin 2 = .ok (.iconst (-1), 1) := by decide +kernel
theorem dX1_begin_3 : decode cX1_begin 3 = .ok (.iconst (-1), 1) := by decide +kernel
theorem dX1_begin_4 : decode cX1_begin 4 = .ok (.iconst (-1), 1) := by decide +kernel
theorem dX1_begin_5 : decode cX1_begin 5 = .ok (.invokevirtual 39, 3) := by decide +kernel
theorem dX1_begin_8 : decode cX1_begin 8 = .ok (.return_, 1) := by decide +kernel
abbrev rX1_begin : Room := { frames := 3, cells := 0, slots := 0, locals := 71 }
set_option maxRecDepth 20000 in
theorem c_X1_begin (l : Launch) (y : Cy) (hy : Inj y) (q0 : Nat) (q1 : Nat) (hq0 : q0 < 2) (hq1 : q1 < 7) (M : Mem) : CT l y yX1_begin cX1_begin 2 none rX1_begin [.ref (y.2.1 (cI q0 0)), .ref (y.2.1 (sI q1 0))] M (d_X1_begin q0 q1 M) := by
  refine CT_of (by decide) hy (Nat.le_of_ble_eq_true rfl) (fun x hxl h => ?_)
  show G x y 0 [(0, .ref (y.2.1 (cI q0 0))), (1, .ref (y.2.1 (sI q1 0)))] [] M _
  unfold d_X1_begin
  refine G_aload_n (pc := 0) h.1 dX1_begin_0 rfl 0 rfl ?_
  refine G_aload_n (pc := 1) h.1 dX1_begin_1 rfl 1 rfl ?_
  refine G_iconst (pc := 2) (v := (-1)) h.1 dX1_begin_2 (by decide) ?_
  refine G_iconst (pc := 3) (v := (-1)) h.1 dX1_begin_3 (by decide) ?_
  refine G_iconst (pc := 4) (v := (-1)) h.1 dX1_begin_4 (by decide) ?_
  refine G_callVv (pc := 5) (As := [.ref (y.2.1 (sI q1 0)), .int (-1 : Int32), .int (-1 : Int32), .int (-1 : Int32)]) (rest := []) h.1 h.2.2.1 lk_X1_39 (ids_c hq0 0 (by decide)) (eC0 hq0 _) rfl rfl (c_X1_beginWith x.1.2.1 y hy q0 q1 hq0 hq1 (-1 : Int32) (-1 : Int32) (-1 : Int32) M) rfl rfl (Nat.le_of_ble_eq_true rfl) ⟨rfl, rfl, Nat.le_of_ble_eq_true rfl, Nat.le_of_ble_eq_true rfl⟩ dX1_begin_5 (fun r2 M1 => ?_)
  exact G_vret (pc := 8) h dX1_begin_8
theorem dX1_drawFor_0 : decode cX1_drawFor 0 = .ok (.iload_n 1, 1) := by decide +kernel
theorem dX1_drawFor_1 : decode cX1_drawFor 1 = .ok (.ifCond .lt 11, 3) := by decide +kernel
theorem dX1_drawFor_4 : decode cX1_drawFor 4 = .ok (.iload_n 1, 1) := by decide +kernel
theorem dX1_drawFor_5 : decode cX1_drawFor 5 = .ok (.aload_n 0, 1) := by decide +kernel
theorem dX1_drawFor_6 : decode cX1_drawFor 6 = .ok (.getfield 69, 3) := by decide +kernel
theorem dX1_drawFor_9 : decode cX1_drawFor 9 = .ok (.if_icmp .lt 4, 3) := by decide +kernel
theorem dX1_drawFor_12 : decode cX1_drawFor 12 = .ok (.return_, 1) := by decide +kernel
theorem dX1_drawFor_13 : decode cX1_drawFor 13 = .ok (.aload_n 0, 1) := by decide +kernel
theorem dX1_drawFor_14 : decode cX1_drawFor 14 = .ok (.getfield 53, 3) := by decide +kernel
theorem dX1_drawFor_17 : decode cX1_drawFor 17 = .ok (.aload_n 0, 1) := by decide +kernel
theorem dX1_drawFor_18 : decode cX1_drawFor 18 = .ok (.getfield 27, 3) := by decide +kernel
theorem dX1_drawFor_21 : decode cX1_drawFor 21 = .ok (.iload_n 1, 1) := by decide +kernel
theorem dX1_drawFor_22 : decode cX1_drawFor 22 = .ok (.iaload, 1) := by decide +kernel
theorem dX1_drawFor_23 : decode cX1_drawFor 23 = .ok (.isub, 1) := by decide +kernel
theorem dX1_drawFor_24 : decode cX1_drawFor 24 = .ok (.istore_n 2, 1) := by decide +kernel
theorem dX1_drawFor_25 : decode cX1_drawFor 25 = .ok (.iload_n 2, 1) := by decide +kernel
theorem dX1_drawFor_26 : decode cX1_drawFor 26 = .ok (.aload_n 0, 1) := by decide +kernel
theorem dX1_drawFor_27 : decode cX1_drawFor 27 = .ok (.getfield 24, 3) := by decide +kernel
theorem dX1_drawFor_30 : decode cX1_drawFor 30 = .ok (.iload_n 1, 1) := by decide +kernel
theorem dX1_drawFor_31 : decode cX1_drawFor 31 = .ok (.iaload, 1) := by decide +kernel
theorem dX1_drawFor_32 : decode cX1_drawFor 32 = .ok (.if_icmp .ge 10, 3) := by decide +kernel
theorem dX1_drawFor_35 : decode cX1_drawFor 35 = .ok (.aload_n 0, 1) := by decide +kernel
theorem dX1_drawFor_36 : decode cX1_drawFor 36 = .ok (.getfield 24, 3) := by decide +kernel
theorem dX1_drawFor_39 : decode cX1_drawFor 39 = .ok (.iload_n 1, 1) := by decide +kernel
theorem dX1_drawFor_40 : decode cX1_drawFor 40 = .ok (.iload_n 2, 1) := by decide +kernel
theorem dX1_drawFor_41 : decode cX1_drawFor 41 = .ok (.iastore, 1) := by decide +kernel
theorem dX1_drawFor_42 : decode cX1_drawFor 42 = .ok (.iload_n 2, 1) := by decide +kernel
theorem dX1_drawFor_43 : decode cX1_drawFor 43 = .ok (.ifCond .ge 31, 3) := by decide +kernel
theorem dX1_drawFor_46 : decode cX1_drawFor 46 = .ok (.aload_n 0, 1) := by decide +kernel
theorem dX1_drawFor_47 : decode cX1_drawFor 47 = .ok (.getfield 15, 3) := by decide +kernel
theorem dX1_drawFor_50 : decode cX1_drawFor 50 = .ok (.iload_n 1, 1) := by decide +kernel
theorem dX1_drawFor_51 : decode cX1_drawFor 51 = .ok (.iconst 3, 1) := by decide +kernel
theorem dX1_drawFor_52 : decode cX1_drawFor 52 = .ok (.iastore, 1) := by decide +kernel
theorem dX1_drawFor_53 : decode cX1_drawFor 53 = .ok (.aload_n 0, 1) := by decide +kernel
theorem dX1_drawFor_54 : decode cX1_drawFor 54 = .ok (.getfield 21, 3) := by decide +kernel
theorem dX1_drawFor_57 : decode cX1_drawFor 57 = .ok (.iload_n 1, 1) := by decide +kernel
theorem dX1_drawFor_58 : decode cX1_drawFor 58 = .ok (.aload_n 0, 1) := by decide +kernel
theorem dX1_drawFor_59 : decode cX1_drawFor 59 = .ok (.getfield 49, 3) := by decide +kernel
theorem dX1_drawFor_62 : decode cX1_drawFor 62 = .ok (.iastore, 1) := by decide +kernel
theorem dX1_drawFor_63 : decode cX1_drawFor 63 = .ok (.aload_n 0, 1) := by decide +kernel
theorem dX1_drawFor_64 : decode cX1_drawFor 64 = .ok (.dup, 1) := by decide +kernel
theorem dX1_drawFor_65 : decode cX1_drawFor 65 = .ok (.getfield 94, 3) := by decide +kernel
theorem dX1_drawFor_68 : decode cX1_drawFor 68 = .ok (.iconst 1, 1) := by decide +kernel
theorem dX1_drawFor_69 : decode cX1_drawFor 69 = .ok (.isub, 1) := by decide +kernel
theorem dX1_drawFor_70 : decode cX1_drawFor 70 = .ok (.putfield 94, 3) := by decide +kernel
theorem dX1_drawFor_73 : decode cX1_drawFor 73 = .ok (.return_, 1) := by decide +kernel
theorem dX1_drawFor_74 : decode cX1_drawFor 74 = .ok (.aload_n 0, 1) := by decide +kernel
theorem dX1_drawFor_75 : decode cX1_drawFor 75 = .ok (.getfield 30, 3) := by decide +kernel
theorem dX1_drawFor_78 : decode cX1_drawFor 78 = .ok (.iload_n 1, 1) := by decide +kernel
theorem dX1_drawFor_79 : decode cX1_drawFor 79 = .ok (.iaload, 1) := by decide +kernel
theorem dX1_drawFor_80 : decode cX1_drawFor 80 = .ok (.aload_n 0, 1) := by decide +kernel
theorem dX1_drawFor_81 : decode cX1_drawFor 81 = .ok (.getfield 53, 3) := by decide +kernel
theorem dX1_drawFor_84 : decode cX1_drawFor 84 = .ok (.if_icmp .ge 12, 3) := by decide +kernel
theorem dX1_drawFor_87 : decode cX1_drawFor 87 = .ok (.aload_n 0, 1) := by decide +kernel
theorem dX1_drawFor_88 : decode cX1_drawFor 88 = .ok (.getfield 30, 3) := by decide +kernel
theorem dX1_drawFor_91 : decode cX1_drawFor 91 = .ok (.iload_n 1, 1) := by decide +kernel
theorem dX1_drawFor_92 : decode cX1_drawFor 92 = .ok (.iaload, 1) := by decide +kernel
theorem dX1_drawFor_93 : decode cX1_drawFor 93 = .ok (.goto 7, 3) := by decide +kernel
theorem dX1_drawFor_96 : decode cX1_drawFor 96 = .ok (.aload_n 0, 1) := by decide +kernel
theorem dX1_drawFor_97 : decode cX1_drawFor 97 = .ok (.getfield 53, 3) := by decide +kernel
theorem dX1_drawFor_100 : decode cX1_drawFor 100 = .ok (.istore_n 3, 1) := by decide +kernel
theorem dX1_drawFor_101 : decode cX1_drawFor 101 = .ok (.aload_n 0, 1) := by decide +kernel
theorem dX1_drawFor_102 : decode cX1_drawFor 102 = .ok (.dup, 1) := by decide +kernel
theorem dX1_drawFor_103 : decode cX1_drawFor 103 = .ok (.getfield 53, 3) := by decide +kernel
theorem dX1_drawFor_106 : decode cX1_drawFor 106 = .ok (.iload_n 3, 1) := by decide +kernel
theorem dX1_drawFor_107 : decode cX1_drawFor 107 = .ok (.isub, 1) := by decide +kernel
theorem dX1_drawFor_108 : decode cX1_drawFor 108 = .ok (.putfield 53, 3) := by decide +kernel
theorem dX1_drawFor_111 : decode cX1_drawFor 111 = .ok (.aload_n 0, 1) := by decide +kernel
theorem dX1_drawFor_112 : decode cX1_drawFor 112 = .ok (.dup, 1) := by decide +kernel
theorem dX1_drawFor_113 : decode cX1_drawFor 113 = .ok (.getfield 66, 3) := by decide +kernel
theorem dX1_drawFor_116 : decode cX1_drawFor 116 = .ok (.iload_n 3, 1) := by decide +kernel
theorem dX1_drawFor_117 : decode cX1_drawFor 117 = .ok (.iadd, 1) := by decide +kernel
theorem dX1_drawFor_118 : decode cX1_drawFor 118 = .ok (.putfield 66, 3) := by decide +kernel
theorem dX1_drawFor_121 : decode cX1_drawFor 121 = .ok (.aload_n 0, 1) := by decide +kernel
theorem dX1_drawFor_122 : decode cX1_drawFor 122 = .ok (.getfield 18, 3) := by decide +kernel
theorem dX1_drawFor_125 : decode cX1_drawFor 125 = .ok (.iload_n 1, 1) := by decide +kernel
theorem dX1_drawFor_126 : decode cX1_drawFor 126 = .ok (.dup2, 1) := by decide +kernel
theorem dX1_drawFor_127 : decode cX1_drawFor 127 = .ok (.iaload, 1) := by decide +kernel
theorem dX1_drawFor_128 : decode cX1_drawFor 128 = .ok (.iconst 1, 1) := by decide +kernel
theorem dX1_drawFor_129 : decode cX1_drawFor 129 = .ok (.iadd, 1) := by decide +kernel
theorem dX1_drawFor_130 : decode cX1_drawFor 130 = .ok (.iastore, 1) := by decide +kernel
theorem dX1_drawFor_131 : decode cX1_drawFor 131 = .ok (.aload_n 0, 1) := by decide +kernel
theorem dX1_drawFor_132 : decode cX1_drawFor 132 = .ok (.getfield 15, 3) := by decide +kernel
theorem dX1_drawFor_135 : decode cX1_drawFor 135 = .ok (.iload_n 1, 1) := by decide +kernel
theorem dX1_drawFor_136 : decode cX1_drawFor 136 = .ok (.iconst 1, 1) := by decide +kernel
theorem dX1_drawFor_137 : decode cX1_drawFor 137 = .ok (.iastore, 1) := by decide +kernel
theorem dX1_drawFor_138 : decode cX1_drawFor 138 = .ok (.aload_n 0, 1) := by decide +kernel
theorem dX1_drawFor_139 : decode cX1_drawFor 139 = .ok (.getfield 49, 3) := by decide +kernel
theorem dX1_drawFor_142 : decode cX1_drawFor 142 = .ok (.aload_n 0, 1) := by decide +kernel
theorem dX1_drawFor_143 : decode cX1_drawFor 143 = .ok (.getfield 36, 3) := by decide +kernel
theorem dX1_drawFor_146 : decode cX1_drawFor 146 = .ok (.iload_n 1, 1) := by decide +kernel
theorem dX1_drawFor_147 : decode cX1_drawFor 147 = .ok (.iaload, 1) := by decide +kernel
theorem dX1_drawFor_148 : decode cX1_drawFor 148 = .ok (.if_icmp .ne 20, 3) := by decide +kernel
theorem dX1_drawFor_151 : decode cX1_drawFor 151 = .ok (.aload_n 0, 1) := by decide +kernel
theorem dX1_drawFor_152 : decode cX1_drawFor 152 = .ok (.getfield 15, 3) := by decide +kernel
theorem dX1_drawFor_155 : decode cX1_drawFor 155 = .ok (.iload_n 1, 1) := by decide +kernel
theorem dX1_drawFor_156 : decode cX1_drawFor 156 = .ok (.iconst 2, 1) := by decide +kernel
theorem dX1_drawFor_157 : decode cX1_drawFor 157 = .ok (.iastore, 1) := by decide +kernel
theorem dX1_drawFor_158 : decode cX1_drawFor 158 = .ok (.aload_n 0, 1) := by decide +kernel
theorem dX1_drawFor_159 : decode cX1_drawFor 159 = .ok (.dup, 1) := by decide +kernel
theorem dX1_drawFor_160 : decode cX1_drawFor 160 = .ok (.getfield 94, 3) := by decide +kernel
theorem dX1_drawFor_163 : decode cX1_drawFor 163 = .ok (.iconst 1, 1) := by decide +kernel
theorem dX1_drawFor_164 : decode cX1_drawFor 164 = .ok (.isub, 1) := by decide +kernel
theorem dX1_drawFor_165 : decode cX1_drawFor 165 = .ok (.putfield 94, 3) := by decide +kernel
theorem dX1_drawFor_168 : decode cX1_drawFor 168 = .ok (.return_, 1) := by decide +kernel
abbrev rX1_drawFor : Room := { frames := 0, cells := 0, slots := 0, locals := 0 }
set_option maxRecDepth 20000 in
theorem gd_X1_drawFor_B100 {x : Cx} {y : Cy} (hy : Inj y) (h : OkM x y cX1_drawFor RX1 4 none rX1_drawFor) (q0 : Nat) (hq0 : q0 < 2) (a1 : Int32) (s0 : Int32) (M : Mem) : G x y 100 [(0, .ref (y.2.1 (cI q0 0))), (1, .int a1)] [.int s0] M (d_X1_drawFor_B100 q0 a1 s0 M) := by
  unfold d_X1_drawFor_B100
  refine G_istore_n (pc := 100) h.1 h.2.1 [(3, .int s0), (0, .ref (y.2.1 (cI q0 0))), (1, .int a1)] dX1_drawFor_100 rfl (by decide) rfl ?_
  refine G_aload_n (pc := 101) h.1 dX1_drawFor_101 rfl 1 rfl ?_
  refine G_dup (pc := 102) h.1 dX1_drawFor_102 rfl ?_
  refine G_get (pc := 103) (v := .int (M (cI q0 0) 1)) h.1 fl_X1_53 (ids_c hq0 0 (by decide)) (eC0 hq0 _) rfl dX1_drawFor_103 ?_
  refine G_iload_n (pc := 106) h.1 dX1_drawFor_106 rfl 0 rfl ?_
  refine G_isub (pc := 107) h.1 dX1_drawFor_107 ?_
  refine G_put (pc := 108) h.1 fp_X1_53 (ids_c hq0 0 (by decide)) (fun m => eC0 hq0 m) (fun _ => rfl) (fun _ => Nat.le_of_ble_eq_true rfl) rfl rfl dX1_drawFor_108 (fun M2 => ?_)
  refine G_aload_n (pc := 111) h.1 dX1_drawFor_111 rfl 1 rfl ?_
  refine G_dup (pc := 112) h.1 dX1_drawFor_112 rfl ?_
  refine G_get (pc := 113) (v := .int (M2 (cI q0 0) 5)) h.1 fl_X1_66 (ids_c hq0 0 (by decide)) (eC0 hq0 _) rfl dX1_drawFor_113 ?_
  refine G_iload_n (pc := 116) h.1 dX1_drawFor_116 rfl 0 rfl ?_
  refine G_iadd (pc := 117) h.1 dX1_drawFor_117 ?_
  refine G_put (pc := 118) h.1 fp_X1_66 (ids_c hq0 0 (by decide)) (fun m => eC0 hq0 m) (fun _ => rfl) (fun _ => Nat.le_of_ble_eq_true rfl) rfl rfl dX1_drawFor_118 (fun M3 => ?_)
  refine G_aload_n (pc := 121) h.1 dX1_drawFor_121 rfl 1 rfl ?_
  refine G_get (pc := 122) (v := .ref (y.2.1 (cI q0 3))) h.1 fl_X1_18 (ids_c hq0 0 (by decide)) (eC0 hq0 _) rfl dX1_drawFor_122 ?_
  refine G_iload_n (pc := 125) h.1 dX1_drawFor_125 rfl 2 rfl ?_
  refine G_dup2 (pc := 126) h.1 dX1_drawFor_126 rfl rfl ?_
  refine G_iald (pc := 127) h.1 (ids_c hq0 3 (by decide)) (eC3 hq0 _) dX1_drawFor_127 ?_
  refine G_iconst (pc := 128) (v := (1)) h.1 dX1_drawFor_128 (by decide) ?_
  refine G_iadd (pc := 129) h.1 dX1_drawFor_129 ?_
  refine G_iast (pc := 130) h.1 (ids_c hq0 3 (by decide)) (fun m => eC3 hq0 m) dX1_drawFor_130 (fun M4 => ?_)
  refine G_aload_n (pc := 131) h.1 dX1_drawFor_131 rfl 1 rfl ?_
  refine G_get (pc := 132) (v := .ref (y.2.1 (cI q0 2))) h.1 fl_X1_15 (ids_c hq0 0 (by decide)) (eC0 hq0 _) rfl dX1_drawFor_132 ?_
  refine G_iload_n (pc := 135) h.1 dX1_drawFor_135 rfl 2 rfl ?_
  refine G_iconst (pc := 136) (v := (1)) h.1 dX1_drawFor_136 (by decide) ?_
  refine G_iast (pc := 137) h.1 (ids_c hq0 2 (by decide)) (fun m => eC2 hq0 m) dX1_drawFor_137 (fun M5 => ?_)
  refine G_aload_n (pc := 138) h.1 dX1_drawFor_138 rfl 1 rfl ?_
  refine G_get (pc := 139) (v := .int (M5 (cI q0 0) 0)) h.1 fl_X1_49 (ids_c hq0 0 (by decide)) (eC0 hq0 _) rfl dX1_drawFor_139 ?_
  refine G_aload_n (pc := 142) h.1 dX1_drawFor_142 rfl 1 rfl ?_
  refine G_get (pc := 143) (v := .ref (y.2.1 (cI q0 9))) h.1 fl_X1_36 (ids_c hq0 0 (by decide)) (eC0 hq0 _) rfl dX1_drawFor_143 ?_
  refine G_iload_n (pc := 146) h.1 dX1_drawFor_146 rfl 2 rfl ?_
  refine G_iald (pc := 147) h.1 (ids_c hq0 9 (by decide)) (eC9 hq0 _) dX1_drawFor_147 ?_
  refine G_icmp_ne (pc := 148) (tgt := 168) h.1 dX1_drawFor_148 (by decide) ?_ ?_
  · exact G_vret (pc := 168) h dX1_drawFor_168
  · refine G_aload_n (pc := 151) h.1 dX1_drawFor_151 rfl 1 rfl ?_
    refine G_get (pc := 152) (v := .ref (y.2.1 (cI q0 2))) h.1 fl_X1_15 (ids_c hq0 0 (by decide)) (eC0 hq0 _) rfl dX1_drawFor_152 ?_
    refine G_iload_n (pc := 155) h.1 dX1_drawFor_155 rfl 2 rfl ?_
    refine G_iconst (pc := 156) (v := (2)) h.1 dX1_drawFor_156 (by decide) ?_
    refine G_iast (pc := 157) h.1 (ids_c hq0 2 (by decide)) (fun m => eC2 hq0 m) dX1_drawFor_157 (fun M6 => ?_)
    refine G_aload_n (pc := 158) h.1 dX1_drawFor_158 rfl 1 rfl ?_
    refine G_dup (pc := 159) h.1 dX1_drawFor_159 rfl ?_
    refine G_get (pc := 160) (v := .int (M6 (cI q0 0) 7)) h.1 fl_X1_94 (ids_c hq0 0 (by decide)) (eC0 hq0 _) rfl dX1_drawFor_160 ?_
    refine G_iconst (pc := 163) (v := (1)) h.1 dX1_drawFor_163 (by decide) ?_
    refine G_isub (pc := 164) h.1 dX1_drawFor_164 ?_
    refine G_put (pc := 165) h.1 fp_X1_94 (ids_c hq0 0 (by decide)) (fun m => eC0 hq0 m) (fun _ => rfl) (fun _ => Nat.le_of_ble_eq_true rfl) rfl rfl dX1_drawFor_165 (fun M7 => ?_)
    exact G_vret (pc := 168) h dX1_drawFor_168
set_option maxRecDepth 20000 in
theorem gd_X1_drawFor_B42 {x : Cx} {y : Cy} (hy : Inj y) (h : OkM x y cX1_drawFor RX1 4 none rX1_drawFor) (q0 : Nat) (hq0 : q0 < 2) (a1 : Int32) (a2 : Int32) (M : Mem) : G x y 42 [(0, .ref (y.2.1 (cI q0 0))), (1, .int a1), (2, .int a2)] [] M (d_X1_drawFor_B42 q0 a1 a2 M) := by
  unfold d_X1_drawFor_B42
  refine G_iload_n (pc := 42) h.1 dX1_drawFor_42 rfl 2 rfl ?_
  refine G_if_ge (pc := 43) (tgt := 74) h.1 dX1_drawFor_43 (by decide) ?_ ?_
  · refine G_aload_n (pc := 74) h.1 dX1_drawFor_74 rfl 0 rfl ?_
    refine G_get (pc := 75) (v := .ref (y.2.1 (cI q0 7))) h.1 fl_X1_30 (ids_c hq0 0 (by decide)) (eC0 hq0 _) rfl dX1_drawFor_75 ?_
    refine G_iload_n (pc := 78) h.1 dX1_drawFor_78 rfl 1 rfl ?_
    refine G_iald (pc := 79) h.1 (ids_c hq0 7 (by decide)) (eC7 hq0 _) dX1_drawFor_79 ?_
    refine G_aload_n (pc := 80) h.1 dX1_drawFor_80 rfl 0 rfl ?_
    refine G_get (pc := 81) (v := .int (M (cI q0 0) 1)) h.1 fl_X1_53 (ids_c hq0 0 (by decide)) (eC0 hq0 _) rfl dX1_drawFor_81 ?_
    refine G_icmp_ge (pc := 84) (tgt := 96) h.1 dX1_drawFor_84 (by decide) ?_ ?_
    · refine G_aload_n (pc := 96) h.1 dX1_drawFor_96 rfl 0 rfl ?_
      refine G_get (pc := 97) (v := .int (M (cI q0 0) 1)) h.1 fl_X1_53 (ids_c hq0 0 (by decide)) (eC0 hq0 _) rfl dX1_drawFor_97 ?_
      exact G_sub [0, 1] rfl (gd_X1_drawFor_B100 hy h q0 hq0 a1 (M (cI q0 0) 1) M)
    · refine G_aload_n (pc := 87) h.1 dX1_drawFor_87 rfl 0 rfl ?_
      refine G_get (pc := 88) (v := .ref (y.2.1 (cI q0 7))) h.1 fl_X1_30 (ids_c hq0 0 (by decide)) (eC0 hq0 _) rfl dX1_drawFor_88 ?_
      refine G_iload_n (pc := 91) h.1 dX1_drawFor_91 rfl 1 rfl ?_
      refine G_iald (pc := 92) h.1 (ids_c hq0 7 (by decide)) (eC7 hq0 _) dX1_drawFor_92 ?_
      refine G_goto (pc := 93) (tgt := 100) h.1 dX1_drawFor_93 (by decide) ?_
      exact G_sub [0, 1] rfl (gd_X1_drawFor_B100 hy h q0 hq0 a1 (M (cI q0 7) (a1).toNatClampNeg) M)
  · refine G_aload_n (pc := 46) h.1 dX1_drawFor_46 rfl 0 rfl ?_
    refine G_get (pc := 47) (v := .ref (y.2.1 (cI q0 2))) h.1 fl_X1_15 (ids_c hq0 0 (by decide)) (eC0 hq0 _) rfl dX1_drawFor_47 ?_
    refine G_iload_n (pc := 50) h.1 dX1_drawFor_50 rfl 1 rfl ?_
    refine G_iconst (pc := 51) (v := (3)) h.1 dX1_drawFor_51 (by decide) ?_
    refine G_iast (pc := 52) h.1 (ids_c hq0 2 (by decide)) (fun m => eC2 hq0 m) dX1_drawFor_52 (fun M8 => ?_)
    refine G_aload_n (pc := 53) h.1 dX1_drawFor_53 rfl 0 rfl ?_
    refine G_get (pc := 54) (v := .ref (y.2.1 (cI q0 4))) h.1 fl_X1_21 (ids_c hq0 0 (by decide)) (eC0 hq0 _) rfl dX1_drawFor_54 ?_
    refine G_iload_n (pc := 57) h.1 dX1_drawFor_57 rfl 1 rfl ?_
    refine G_aload_n (pc := 58) h.1 dX1_drawFor_58 rfl 0 rfl ?_
    refine G_get (pc := 59) (v := .int (M8 (cI q0 0) 0)) h.1 fl_X1_49 (ids_c hq0 0 (by decide)) (eC0 hq0 _) rfl dX1_drawFor_59 ?_
    refine G_iast (pc := 62) h.1 (ids_c hq0 4 (by decide)) (fun m => eC4 hq0 m) dX1_drawFor_62 (fun M9 => ?_)
    refine G_aload_n (pc := 63) h.1 dX1_drawFor_63 rfl 0 rfl ?_
    refine G_dup (pc := 64) h.1 dX1_drawFor_64 rfl ?_
    refine G_get (pc := 65) (v := .int (M9 (cI q0 0) 7)) h.1 fl_X1_94 (ids_c hq0 0 (by decide)) (eC0 hq0 _) rfl dX1_drawFor_65 ?_
    refine G_iconst (pc := 68) (v := (1)) h.1 dX1_drawFor_68 (by decide) ?_
    refine G_isub (pc := 69) h.1 dX1_drawFor_69 ?_
    refine G_put (pc := 70) h.1 fp_X1_94 (ids_c hq0 0 (by decide)) (fun m => eC0 hq0 m) (fun _ => rfl) (fun _ => Nat.le_of_ble_eq_true rfl) rfl rfl dX1_drawFor_70 (fun M10 => ?_)
    exact G_vret (pc := 73) h dX1_drawFor_73
set_option maxRecDepth 20000 in
theorem c_X1_drawFor (l : Launch) (y : Cy) (hy : Inj y) (q0 : Nat) (hq0 : q0 < 2) (p1 : Int32) (M : Mem) : CT l y yX1_drawFor cX1_drawFor 4 none rX1_drawFor [.ref (y.2.1 (cI q0 0)), .int p1] M (d_X1_drawFor q0 p1 M) := by
  refine CT_of (by decide) hy (Nat.le_of_ble_eq_true rfl) (fun x hxl h => ?_)
  show G x y 0 [(0, .ref (y.2.1 (cI q0 0))), (1, .int p1)] [] M _
  unfold d_X1_drawFor
  refine G_iload_n (pc := 0) h.1 dX1_drawFor_0 rfl 1 rfl ?_
  refine G_if_lt (pc := 1) (tgt := 12) h.1 dX1_drawFor_1 (by decide) ?_ ?_
  · exact G_vret (pc := 12) h dX1_drawFor_12
  · refine G_iload_n (pc := 4) h.1 dX1_drawFor_4 rfl 1 rfl ?_
    refine G_aload_n (pc := 5) h.1 dX1_drawFor_5 rfl 0 rfl ?_
    refine G_get (pc := 6) (v := .int (M (cI q0 0) 6)) h.1 fl_X1_69 (ids_c hq0 0 (by decide)) (eC0 hq0 _) rfl dX1_drawFor_6 ?_
    refine G_icmp_lt (pc := 9) (tgt := 13) h.1 dX1_drawFor_9 (by decide) ?_ ?_
    · refine G_aload_n (pc := 13) h.1 dX1_drawFor_13 rfl 0 rfl ?_
      refine G_get (pc := 14) (v := .int (M (cI q0 0) 1)) h.1 fl_X1_53 (ids_c hq0 0 (by decide)) (eC0 hq0 _) rfl dX1_drawFor_14 ?_
      refine G_aload_n (pc := 17) h.1 dX1_drawFor_17 rfl 0 rfl ?_
      refine G_get (pc := 18) (v := .ref (y.2.1 (cI q0 6))) h.1 fl_X1_27 (ids_c hq0 0 (by decide)) (eC0 hq0 _) rfl dX1_drawFor_18 ?_
      refine G_iload_n (pc := 21) h.1 dX1_drawFor_21 rfl 1 rfl ?_
      refine G_iald (pc := 22) h.1 (ids_c hq0 6 (by decide)) (eC6 hq0 _) dX1_drawFor_22 ?_
      refine G_isub (pc := 23) h.1 dX1_drawFor_23 ?_
      refine G_top (fun v1 => ?_)
      refine G_istore_n (pc := 24) h.1 h.2.1 [(2, .int v1), (0, .ref (y.2.1 (cI q0 0))), (1, .int p1)] dX1_drawFor_24 rfl (by decide) rfl ?_
      refine G_iload_n (pc := 25) h.1 dX1_drawFor_25 rfl 0 rfl ?_
      refine G_aload_n (pc := 26) h.1 dX1_drawFor_26 rfl 1 rfl ?_
      refine G_get (pc := 27) (v := .ref (y.2.1 (cI q0 5))) h.1 fl_X1_24 (ids_c hq0 0 (by decide)) (eC0 hq0 _) rfl dX1_drawFor_27 ?_
      refine G_iload_n (pc := 30) h.1 dX1_drawFor_30 rfl 2 rfl ?_
      refine G_iald (pc := 31) h.1 (ids_c hq0 5 (by decide)) (eC5 hq0 _) dX1_drawFor_31 ?_
      refine G_icmp_ge (pc := 32) (tgt := 42) h.1 dX1_drawFor_32 (by decide) ?_ ?_
      · exact G_sub [1, 2, 0] rfl (gd_X1_drawFor_B42 hy h q0 hq0 p1 v1 M)
      · refine G_aload_n (pc := 35) h.1 dX1_drawFor_35 rfl 1 rfl ?_
        refine G_get (pc := 36) (v := .ref (y.2.1 (cI q0 5))) h.1 fl_X1_24 (ids_c hq0 0 (by decide)) (eC0 hq0 _) rfl dX1_drawFor_36 ?_
        refine G_iload_n (pc := 39) h.1 dX1_drawFor_39 rfl 2 rfl ?_
        refine G_iload_n (pc := 40) h.1 dX1_drawFor_40 rfl 0 rfl ?_
        refine G_iast (pc := 41) h.1 (ids_c hq0 5 (by decide)) (fun m => eC5 hq0 m) dX1_drawFor_41 (fun M11 => ?_)
        exact G_sub [1, 2, 0] rfl (gd_X1_drawFor_B42 hy h q0 hq0 p1 v1 M11)
    · exact G_vret (pc := 12) h dX1_drawFor_12
theorem dX1_passTick_0 : decode cX1_passTick 0 = .ok (.aload_n 0, 1) := by decide +kernel
theorem dX1_passTick_1 : decode cX1_passTick 1 = .ok (.dup, 1) := by decide +kernel
theorem dX1_passTick_2 : decode cX1_passTick 2 = .ok (.getfield 49, 3) := by decide +kernel
theorem dX1_passTick_5 : decode cX1_passTick 5 = .ok (.iconst 1, 1) := by decide +kernel
theorem dX1_passTick_6 : decode cX1_passTick 6 = .ok (.iadd, 1) := by decide +kernel
theorem dX1_passTick_7 : decode cX1_passTick 7 = .ok (.putfield 49, 3) := by decide +kernel
theorem dX1_passTick_10 : decode cX1_passTick 10 = .ok (.aload_n 0, 1) := by decide +kernel
theorem dX1_passTick_11 : decode cX1_passTick 11 = .ok (.aload_n 0, 1) := by decide +kernel
theorem dX1_passTick_12 : decode cX1_passTick 12 = .ok (.getfield 57, 3) := by decide +kernel
theorem dX1_passTick_15 : decode cX1_passTick 15 = .ok (.aload_n 0, 1) := by decide +kernel
theorem dX1_passTick_16 : decode cX1_passTick 16 = .ok (.getfield 53, 3) := by decide +kernel
theorem dX1_passTick_19 : decode cX1_passTick 19 = .ok (.aload_n 0, 1) := by decide +kernel
theorem dX1_passTick_20 : decode cX1_passTick 20 = .ok (.getfield 61, 3) := by decide +kernel
theorem dX1_passTick_23 : decode cX1_passTick 23 = .ok (.iadd, 1) := by decide +kernel
theorem dX1_passTick_24 : decode cX1_passTick 24 = .ok (.invokestatic 117, 3) := by decide +kernel
theorem dX1_passTick_27 : decode cX1_passTick 27 = .ok (.putfield 53, 3) := by decide +kernel
theorem dX1_passTick_30 : decode cX1_passTick 30 = .ok (.iconst 0, 1) := by decide +kernel
theorem dX1_passTick_31 : decode cX1_passTick 31 = .ok (.istore_n 1, 1) := by decide +kernel
theorem dX1_passTick_32 : decode cX1_passTick 32 = .ok (.iload_n 1, 1) := by decide +kernel
theorem dX1_passTick_33 : decode cX1_passTick 33 = .ok (.aload_n 0, 1) := by decide +kernel
theorem dX1_passTick_34 : decode cX1_passTick 34 = .ok (.getfield 69, 3) := by decide +kernel
theorem dX1_passTick_37 : decode cX1_passTick 37 = .ok (.if_icmp .ge 50, 3) := by decide +kernel
theorem dX1_passTick_40 : decode cX1_passTick 40 = .ok (.aload_n 0, 1) := by decide +kernel
theorem dX1_passTick_41 : decode cX1_passTick 41 = .ok (.getfield 33, 3) := by decide +kernel
theorem dX1_passTick_44 : decode cX1_passTick 44 = .ok (.iload_n 1, 1) := by decide +kernel
theorem dX1_passTick_45 : decode cX1_passTick 45 = .ok (.iaload, 1) := by decide +kernel
theorem dX1_passTick_46 : decode cX1_passTick 46 = .ok (.aload_n 0, 1) := by decide +kernel
theorem dX1_passTick_47 : decode cX1_passTick 47 = .ok (.getfield 49, 3) := by decide +kernel
theorem dX1_passTick_50 : decode cX1_passTick 50 = .ok (.if_icmp .gt 31, 3) := by decide +kernel
theorem dX1_passTick_53 : decode cX1_passTick 53 = .ok (.aload_n 0, 1) := by decide +kernel
theorem dX1_passTick_54 : decode cX1_passTick 54 = .ok (.getfield 49, 3) := by decide +kernel
theorem dX1_passTick_57 : decode cX1_passTick 57 = .ok (.aload_n 0, 1) := by decide +kernel
theorem dX1_passTick_58 : decode cX1_passTick 58 = .ok (.getfield 36, 3) := by decide +kernel
theorem dX1_passTick_61 : decode cX1_passTick 61 = .ok (.iload_n 1, 1) := by decide +kernel
theorem dX1_passTick_62 : decode cX1_passTick 62 = .ok (.iaload, 1) := by decide +kernel
theorem dX1_passTick_63 : decode cX1_passTick 63 = .ok (.if_icmp .gt 18, 3) := by decide +kernel
theorem dX1_passTick_66 : decode cX1_passTick 66 = .ok (.aload_n 0, 1) := by decide +kernel
theorem dX1_passTick_67 : decode cX1_passTick 67 = .ok (.getfield 15, 3) := by decide +kernel
theorem dX1_passTick_70 : decode cX1_passTick 70 = .ok (.iload_n 1, 1) := by decide +kernel
theorem dX1_passTick_71 : decode cX1_passTick 71 = .ok (.iaload, 1) := by decide +kernel
theorem dX1_passTick_72 : decode cX1_passTick 72 = .ok (.iconst 3, 1) := by decide +kernel
theorem dX1_passTick_73 : decode cX1_passTick 73 = .ok (.if_icmp .eq 8, 3) := by decide +kernel
theorem dX1_passTick_76 : decode cX1_passTick 76 = .ok (.aload_n 0, 1) := by decide +kernel
theorem dX1_passTick_77 : decode cX1_passTick 77 = .ok (.iload_n 1, 1) := by decide +kernel
theorem dX1_passTick_78 : decode cX1_passTick 78 = .ok (.invokevirtual 123, 3) := by decide +kernel
theorem dX1_passTick_81 : decode cX1_passTick 81 = .ok (.iinc 1 1, 3) := by decide +kernel
theorem dX1_passTick_84 : decode cX1_passTick 84 = .ok (.goto (-52), 3) := by decide +kernel
theorem dX1_passTick_87 : decode cX1_passTick 87 = .ok (.aload_n 0, 1) := by decide +kernel
theorem dX1_passTick_88 : decode cX1_passTick 88 = .ok (.aload_n 0, 1) := by decide +kernel
theorem dX1_passTick_89 : decode cX1_passTick 89 = .ok (.getfield 63, 3) := by decide +kernel
theorem dX1_passTick_92 : decode cX1_passTick 92 = .ok (.aload_n 0, 1) := by decide +kernel
theorem dX1_passTick_93 : decode cX1_passTick 93 = .ok (.getfield 53, 3) := by decide +kernel
theorem dX1_passTick_96 : decode cX1_passTick 96 = .ok (.invokestatic 117, 3) := by decide +kernel
theorem dX1_passTick_99 : decode cX1_passTick 99 = .ok (.putfield 63, 3) := by decide +kernel
theorem dX1_passTick_102 : decode cX1_passTick 102 = .ok (.return_, 1) := by decide +kernel
abbrev rX1_passTick : Room := { frames := 1, cells := 0, slots := 0, locals := 23 }
set_option maxRecDepth 20000 in
theorem gd_X1_passTick_B81 {x : Cx} {y : Cy} (hy : Inj y) (h : OkM x y cX1_passTick RX1 2 none rX1_passTick) (q0 : Nat) (hq0 : q0 < 2) (kx1 : Mem → Ans) (kb : Int32 → Mem → Ans) (a1 : Int32) (hx1 : ∀ M0 : Mem, G x y 87 [(0, .ref (y.2.1 (cI q0 0)))] [] M0 (kx1 M0)) (hb : ∀ (b1 : Int32), ∀ M0 : Mem, G x y 32 [(0, .ref (y.2.1 (cI q0 0))), (1, .int b1)] [] M0 (kb b1 M0)) (M : Mem) : G x y 81 [(0, .ref (y.2.1 (cI q0 0))), (1, .int a1)] [] M (d_X1_passTick_B81 q0 kx1 kb a1 M) := by
  unfold d_X1_passTick_B81
  refine G_iinc (pc := 81) (v := a1 + (1)) h.1 h.2.1 (fun v3 => [(1, .int v3), (0, .ref (y.2.1 (cI q0 0)))]) dX1_passTick_81 (by decide) 1 rfl rfl (fun _ => rfl) (fun v3 => ?_)
  refine G_goto (pc := 84) (tgt := 32) h.1 dX1_passTick_84 (by decide) ?_
  exact G_sub [1, 0] rfl (hb v3 M)
set_option maxRecDepth 20000 in
theorem gd_X1_passTick_L32_body {x : Cx} {y : Cy} (hy : Inj y) (h : OkM x y cX1_passTick RX1 2 none rX1_passTick) (q0 : Nat) (hq0 : q0 < 2) (kx1 : Mem → Ans) (hx1 : ∀ M0 : Mem, G x y 87 [(0, .ref (y.2.1 (cI q0 0)))] [] M0 (kx1 M0)) (kb : Int32 → Mem → Ans) (hb : ∀ (b1 : Int32), ∀ M0 : Mem, G x y 32 [(0, .ref (y.2.1 (cI q0 0))), (1, .int b1)] [] M0 (kb b1 M0)) (a1 : Int32) (M : Mem) : G x y 32 [(0, .ref (y.2.1 (cI q0 0))), (1, .int a1)] [] M (d_X1_passTick_L32_body q0 kx1 kb a1 M) := by
  unfold d_X1_passTick_L32_body
  refine G_iload_n (pc := 32) h.1 dX1_passTick_32 rfl 1 rfl ?_
  refine G_aload_n (pc := 33) h.1 dX1_passTick_33 rfl 0 rfl ?_
  refine G_get (pc := 34) (v := .int (M (cI q0 0) 6)) h.1 fl_X1_69 (ids_c hq0 0 (by decide)) (eC0 hq0 _) rfl dX1_passTick_34 ?_
  refine G_icmp_ge (pc := 37) (tgt := 87) h.1 dX1_passTick_37 (by decide) ?_ ?_
  · exact G_sub [0] rfl (hx1 M)
  · refine G_aload_n (pc := 40) h.1 dX1_passTick_40 rfl 0 rfl ?_
    refine G_get (pc := 41) (v := .ref (y.2.1 (cI q0 8))) h.1 fl_X1_33 (ids_c hq0 0 (by decide)) (eC0 hq0 _) rfl dX1_passTick_41 ?_
    refine G_iload_n (pc := 44) h.1 dX1_passTick_44 rfl 1 rfl ?_
    refine G_iald (pc := 45) h.1 (ids_c hq0 8 (by decide)) (eC8 hq0 _) dX1_passTick_45 ?_
    refine G_aload_n (pc := 46) h.1 dX1_passTick_46 rfl 0 rfl ?_
    refine G_get (pc := 47) (v := .int (M (cI q0 0) 0)) h.1 fl_X1_49 (ids_c hq0 0 (by decide)) (eC0 hq0 _) rfl dX1_passTick_47 ?_
    refine G_icmp_gt (pc := 50) (tgt := 81) h.1 dX1_passTick_50 (by decide) ?_ ?_
    · exact G_sub [0, 1] rfl (gd_X1_passTick_B81 hy h q0 hq0 kx1 kb a1 hx1 hb M)
    · refine G_aload_n (pc := 53) h.1 dX1_passTick_53 rfl 0 rfl ?_
      refine G_get (pc := 54) (v := .int (M (cI q0 0) 0)) h.1 fl_X1_49 (ids_c hq0 0 (by decide)) (eC0 hq0 _) rfl dX1_passTick_54 ?_
      refine G_aload_n (pc := 57) h.1 dX1_passTick_57 rfl 0 rfl ?_
      refine G_get (pc := 58) (v := .ref (y.2.1 (cI q0 9))) h.1 fl_X1_36 (ids_c hq0 0 (by decide)) (eC0 hq0 _) rfl dX1_passTick_58 ?_
      refine G_iload_n (pc := 61) h.1 dX1_passTick_61 rfl 1 rfl ?_
      refine G_iald (pc := 62) h.1 (ids_c hq0 9 (by decide)) (eC9 hq0 _) dX1_passTick_62 ?_
      refine G_icmp_gt (pc := 63) (tgt := 81) h.1 dX1_passTick_63 (by decide) ?_ ?_
      · exact G_sub [0, 1] rfl (gd_X1_passTick_B81 hy h q0 hq0 kx1 kb a1 hx1 hb M)
      · refine G_aload_n (pc := 66) h.1 dX1_passTick_66 rfl 0 rfl ?_
        refine G_get (pc := 67) (v := .ref (y.2.1 (cI q0 2))) h.1 fl_X1_15 (ids_c hq0 0 (by decide)) (eC0 hq0 _) rfl dX1_passTick_67 ?_
        refine G_iload_n (pc := 70) h.1 dX1_passTick_70 rfl 1 rfl ?_
        refine G_iald (pc := 71) h.1 (ids_c hq0 2 (by decide)) (eC2 hq0 _) dX1_passTick_71 ?_
        refine G_iconst (pc := 72) (v := (3)) h.1 dX1_passTick_72 (by decide) ?_
        refine G_icmp_eq (pc := 73) (tgt := 81) h.1 dX1_passTick_73 (by decide) ?_ ?_
        · exact G_sub [0, 1] rfl (gd_X1_passTick_B81 hy h q0 hq0 kx1 kb a1 hx1 hb M)
        · refine G_aload_n (pc := 76) h.1 dX1_passTick_76 rfl 0 rfl ?_
          refine G_iload_n (pc := 77) h.1 dX1_passTick_77 rfl 1 rfl ?_
          refine G_callVv (pc := 78) (As := [.int a1]) (rest := []) h.1 h.2.2.1 lk_X1_123 (ids_c hq0 0 (by decide)) (eC0 hq0 _) rfl rfl (c_X1_drawFor x.1.2.1 y hy q0 hq0 a1 M) rfl rfl (Nat.le_of_ble_eq_true rfl) ⟨rfl, rfl, Nat.le_of_ble_eq_true rfl, Nat.le_of_ble_eq_true rfl⟩ dX1_passTick_78 (fun r5 M4 => ?_)
          exact G_sub [0, 1] rfl (gd_X1_passTick_B81 hy h q0 hq0 kx1 kb a1 hx1 hb M4)
set_option maxRecDepth 20000 in
theorem gd_X1_passTick_L32 {x : Cx} {y : Cy} (hy : Inj y) (h : OkM x y cX1_passTick RX1 2 none rX1_passTick) (q0 : Nat) (hq0 : q0 < 2) (kx1 : Mem → Ans) (hx1 : ∀ M0 : Mem, G x y 87 [(0, .ref (y.2.1 (cI q0 0)))] [] M0 (kx1 M0)) : ∀ (n : Nat) (a1 : Int32) (M : Mem), G x y 32 [(0, .ref (y.2.1 (cI q0 0))), (1, .int a1)] [] M (d_X1_passTick_L32 q0 kx1 n a1 M) := by
  intro n
  induction n with
  | zero => intro a1 M; exact G_none
  | succ n ih => intro a1 M; exact gd_X1_passTick_L32_body hy h q0 hq0 kx1 hx1 _ ih a1 M
set_option maxRecDepth 20000 in
theorem c_X1_passTick (l : Launch) (y : Cy) (hy : Inj y) (q0 : Nat) (hq0 : q0 < 2) (M : Mem) : CT l y yX1_passTick cX1_passTick 2 none rX1_passTick [.ref (y.2.1 (cI q0 0))] M (d_X1_passTick q0 M) := by
  refine CT_of (by decide) hy (Nat.le_of_ble_eq_true rfl) (fun x hxl h => ?_)
  show G x y 0 [(0, .ref (y.2.1 (cI q0 0)))] [] M _
  unfold d_X1_passTick
  refine G_aload_n (pc := 0) h.1 dX1_passTick_0 rfl 0 rfl ?_
  refine G_dup (pc := 1) h.1 dX1_passTick_1 rfl ?_
  refine G_get (pc := 2) (v := .int (M (cI q0 0) 0)) h.1 fl_X1_49 (ids_c hq0 0 (by decide)) (eC0 hq0 _) rfl dX1_passTick_2 ?_
  refine G_iconst (pc := 5) (v := (1)) h.1 dX1_passTick_5 (by decide) ?_
  refine G_iadd (pc := 6) h.1 dX1_passTick_6 ?_
  refine G_put (pc := 7) h.1 fp_X1_49 (ids_c hq0 0 (by decide)) (fun m => eC0 hq0 m) (fun _ => rfl) (fun _ => Nat.le_of_ble_eq_true rfl) rfl rfl dX1_passTick_7 (fun M1 => ?_)
  refine G_aload_n (pc := 10) h.1 dX1_passTick_10 rfl 0 rfl ?_
  refine G_aload_n (pc := 11) h.1 dX1_passTick_11 rfl 0 rfl ?_
  refine G_get (pc := 12) (v := .int (M1 (cI q0 0) 2)) h.1 fl_X1_57 (ids_c hq0 0 (by decide)) (eC0 hq0 _) rfl dX1_passTick_12 ?_
  refine G_aload_n (pc := 15) h.1 dX1_passTick_15 rfl 0 rfl ?_
  refine G_get (pc := 16) (v := .int (M1 (cI q0 0) 1)) h.1 fl_X1_53 (ids_c hq0 0 (by decide)) (eC0 hq0 _) rfl dX1_passTick_16 ?_
  refine G_aload_n (pc := 19) h.1 dX1_passTick_19 rfl 0 rfl ?_
  refine G_get (pc := 20) (v := .int (M1 (cI q0 0) 3)) h.1 fl_X1_61 (ids_c hq0 0 (by decide)) (eC0 hq0 _) rfl dX1_passTick_20 ?_
  refine G_iadd (pc := 23) h.1 dX1_passTick_23 ?_
  refine G_mmin (pc := 24) h.1 h.2.2.1 mm_X1_117 dX1_passTick_24 (Nat.le_of_ble_eq_true rfl) (Nat.le_of_ble_eq_true rfl) ?_
  refine G_put (pc := 27) h.1 fp_X1_53 (ids_c hq0 0 (by decide)) (fun m => eC0 hq0 m) (fun _ => rfl) (fun _ => Nat.le_of_ble_eq_true rfl) rfl rfl dX1_passTick_27 (fun M2 => ?_)
  refine G_iconst (pc := 30) (v := (0)) h.1 dX1_passTick_30 (by decide) ?_
  refine G_istore_n (pc := 31) h.1 h.2.1 [(1, .int (0 : Int32)), (0, .ref (y.2.1 (cI q0 0)))] dX1_passTick_31 rfl (by decide) rfl ?_
  refine G_sub [1, 0] rfl (gd_X1_passTick_L32 hy h q0 hq0 _ (fun M6 => ?_) fuelN (0 : Int32) M2)
  refine G_aload_n (pc := 87) h.1 dX1_passTick_87 rfl 0 rfl ?_
  refine G_aload_n (pc := 88) h.1 dX1_passTick_88 rfl 0 rfl ?_
  refine G_get (pc := 89) (v := .int (M6 (cI q0 0) 4)) h.1 fl_X1_63 (ids_c hq0 0 (by decide)) (eC0 hq0 _) rfl dX1_passTick_89 ?_
  refine G_aload_n (pc := 92) h.1 dX1_passTick_92 rfl 0 rfl ?_
  refine G_get (pc := 93) (v := .int (M6 (cI q0 0) 1)) h.1 fl_X1_53 (ids_c hq0 0 (by decide)) (eC0 hq0 _) rfl dX1_passTick_93 ?_
  refine G_mmin (pc := 96) h.1 h.2.2.1 mm_X1_117 dX1_passTick_96 (Nat.le_of_ble_eq_true rfl) (Nat.le_of_ble_eq_true rfl) ?_
  refine G_put (pc := 99) h.1 fp_X1_63 (ids_c hq0 0 (by decide)) (fun m => eC0 hq0 m) (fun _ => rfl) (fun _ => Nat.le_of_ble_eq_true rfl) rfl rfl dX1_passTick_99 (fun M7 => ?_)
  exact G_vret (pc := 102) h dX1_passTick_102
theorem dX1_passTicks_0 : decode cX1_passTicks 0 = .ok (.iconst 0, 1) := by decide +kernel
theorem dX1_passTicks_1 : decode cX1_passTicks 1 = .ok (.istore_n 2, 1) := by decide +kernel
theorem dX1_passTicks_2 : decode cX1_passTicks 2 = .ok (.iload_n 2, 1) := by decide +kernel
theorem dX1_passTicks_3 : decode cX1_passTicks 3 = .ok (.iload_n 1, 1) := by decide +kernel
theorem dX1_passTicks_4 : decode cX1_passTicks 4 = .ok (.if_icmp .ge 13, 3) := by decide +kernel
theorem dX1_passTicks_7 : decode cX1_passTicks 7 = .ok (.aload_n 0, 1) := by decide +kernel
theorem dX1_passTicks_8 : decode cX1_passTicks 8 = .ok (.invokevirtual 114, 3) := by decide +kernel
theorem dX1_passTicks_11 : decode cX1_passTicks 11 = .ok (.iinc 2 1, 3) := by decide +kernel
theorem dX1_passTicks_14 : decode cX1_passTicks 14 = .ok (.goto (-12), 3) := by decide +kernel
theorem dX1_passTicks_17 : decode cX1_passTicks 17 = .ok (.return_, 1) := by decide +kernel
abbrev rX1_passTicks : Room := { frames := 2, cells := 0, slots := 0, locals := 44 }
set_option maxRecDepth 20000 in
theorem gd_X1_passTicks_L2_body {x : Cx} {y : Cy} (hy : Inj y) (h : OkM x y cX1_passTicks RX1 3 none rX1_passTicks) (q0 : Nat) (hq0 : q0 < 2) (a1 : Int32) (kx1 : Mem → Ans) (hx1 : ∀ M0 : Mem, G x y 17 [] [] M0 (kx1 M0)) (kb : Int32 → Mem → Ans) (hb : ∀ (b2 : Int32), ∀ M0 : Mem, G x y 2 [(0, .ref (y.2.1 (cI q0 0))), (1, .int a1), (2, .int b2)] [] M0 (kb b2 M0)) (a2 : Int32) (M : Mem) : G x y 2 [(0, .ref (y.2.1 (cI q0 0))), (1, .int a1), (2, .int a2)] [] M (d_X1_passTicks_L2_body q0 a1 kx1 kb a2 M) := by
  unfold d_X1_passTicks_L2_body
  refine G_iload_n (pc := 2) h.1 dX1_passTicks_2 rfl 2 rfl ?_
  refine G_iload_n (pc := 3) h.1 dX1_passTicks_3 rfl 1 rfl ?_
  refine G_icmp_ge (pc := 4) (tgt := 17) h.1 dX1_passTicks_4 (by decide) ?_ ?_
  · exact G_sub [] rfl (hx1 M)
  · refine G_aload_n (pc := 7) h.1 dX1_passTicks_7 rfl 0 rfl ?_
    refine G_callVv (pc := 8) (As := []) (rest := []) h.1 h.2.2.1 lk_X1_114 (ids_c hq0 0 (by decide)) (eC0 hq0 _) rfl rfl (c_X1_passTick x.1.2.1 y hy q0 hq0 M) rfl rfl (Nat.le_of_ble_eq_true rfl) ⟨rfl, rfl, Nat.le_of_ble_eq_true rfl, Nat.le_of_ble_eq_true rfl⟩ dX1_passTicks_8 (fun r2 M1 => ?_)
    refine G_iinc (pc := 11) (v := a2 + (1)) h.1 h.2.1 (fun v3 => [(2, .int v3), (0, .ref (y.2.1 (cI q0 0))), (1, .int a1)]) dX1_passTicks_11 (by decide) 2 rfl rfl (fun _ => rfl) (fun v3 => ?_)
    refine G_goto (pc := 14) (tgt := 2) h.1 dX1_passTicks_14 (by decide) ?_
    exact G_sub [1, 2, 0] rfl (hb v3 M1)
set_option maxRecDepth 20000 in
theorem gd_X1_passTicks_L2 {x : Cx} {y : Cy} (hy : Inj y) (h : OkM x y cX1_passTicks RX1 3 none rX1_passTicks) (q0 : Nat) (hq0 : q0 < 2) (a1 : Int32) (kx1 : Mem → Ans) (hx1 : ∀ M0 : Mem, G x y 17 [] [] M0 (kx1 M0)) : ∀ (n : Nat) (a2 : Int32) (M : Mem), G x y 2 [(0, .ref (y.2.1 (cI q0 0))), (1, .int a1), (2, .int a2)] [] M (d_X1_passTicks_L2 q0 a1 kx1 n a2 M) := by
  intro n
  induction n with
  | zero => intro a2 M; exact G_none
  | succ n ih => intro a2 M; exact gd_X1_passTicks_L2_body hy h q0 hq0 a1 kx1 hx1 _ ih a2 M
set_option maxRecDepth 20000 in
theorem c_X1_passTicks (l : Launch) (y : Cy) (hy : Inj y) (q0 : Nat) (hq0 : q0 < 2) (p1 : Int32) (M : Mem) : CT l y yX1_passTicks cX1_passTicks 3 none rX1_passTicks [.ref (y.2.1 (cI q0 0)), .int p1] M (d_X1_passTicks q0 p1 M) := by
  refine CT_of (by decide) hy (Nat.le_of_ble_eq_true rfl) (fun x hxl h => ?_)
  show G x y 0 [(0, .ref (y.2.1 (cI q0 0))), (1, .int p1)] [] M _
  unfold d_X1_passTicks
  refine G_iconst (pc := 0) (v := (0)) h.1 dX1_passTicks_0 (by decide) ?_
  refine G_istore_n (pc := 1) h.1 h.2.1 [(2, .int (0 : Int32)), (0, .ref (y.2.1 (cI q0 0))), (1, .int p1)] dX1_passTicks_1 rfl (by decide) rfl ?_
  refine G_sub [1, 2, 0] rfl (gd_X1_passTicks_L2 hy h q0 hq0 p1 _ (fun M4 => ?_) fuelN (0 : Int32) M)
  exact G_vret (pc := 17) h dX1_passTicks_17
theorem dX1_passToEnd_0 : decode cX1_passToEnd 0 = .ok (.iconst 0, 1) := by decide +kernel
theorem dX1_passToEnd_1 : decode cX1_passToEnd 1 = .ok (.istore_n 1, 1) := by decide +kernel
theorem dX1_passToEnd_2 : decode cX1_passToEnd 2 = .ok (.iload_n 1, 1) := by decide +kernel
theorem dX1_passToEnd_3 : decode cX1_passToEnd 3 = .ok (.bipush 80, 2) := by decide +kernel
theorem dX1_passToEnd_5 : decode cX1_passToEnd 5 = .ok (.if_icmp .ge 20, 3) := by decide +kernel
theorem dX1_passToEnd_8 : decode cX1_passToEnd 8 = .ok (.aload_n 0, 1) := by decide +kernel
theorem dX1_passToEnd_9 : decode cX1_passToEnd 9 = .ok (.getfield 94, 3) := by decide +kernel
theorem dX1_passToEnd_12 : decode cX1_passToEnd 12 = .ok (.ifCond .le 13, 3) := by decide +kernel
theorem dX1_passToEnd_15 : decode cX1_passToEnd 15 = .ok (.aload_n 0, 1) := by decide +kernel
theorem dX1_passToEnd_16 : decode cX1_passToEnd 16 = .ok (.invokevirtual 114, 3) := by decide +kernel
theorem dX1_passToEnd_19 : decode cX1_passToEnd 19 = .ok (.iinc 1 1, 3) := by decide +kernel
theorem dX1_passToEnd_22 : decode cX1_passToEnd 22 = .ok (.goto (-20), 3) := by decide +kernel
theorem dX1_passToEnd_25 : decode cX1_passToEnd 25 = .ok (.return_, 1) := by decide +kernel
abbrev rX1_passToEnd : Room := { frames := 2, cells := 0, slots := 0, locals := 44 }
set_option maxRecDepth 20000 in
theorem gd_X1_passToEnd_L2_body {x : Cx} {y : Cy} (hy : Inj y) (h : OkM x y cX1_passToEnd RX1 2 none rX1_passToEnd) (q0 : Nat) (hq0 : q0 < 2) (kx1 : Mem → Ans) (hx1 : ∀ M0 : Mem, G x y 25 [] [] M0 (kx1 M0)) (kb : Int32 → Mem → Ans) (hb : ∀ (b1 : Int32), ∀ M0 : Mem, G x y 2 [(0, .ref (y.2.1 (cI q0 0))), (1, .int b1)] [] M0 (kb b1 M0)) (a1 : Int32) (M : Mem) : G x y 2 [(0, .ref (y.2.1 (cI q0 0))), (1, .int a1)] [] M (d_X1_passToEnd_L2_body q0 kx1 kb a1 M) := by
  unfold d_X1_passToEnd_L2_body
  refine G_iload_n (pc := 2) h.1 dX1_passToEnd_2 rfl 1 rfl ?_
  refine G_bipush (pc := 3) (v := (80)) h.1 dX1_passToEnd_3 (by decide) ?_
  refine G_icmp_ge (pc := 5) (tgt := 25) h.1 dX1_passToEnd_5 (by decide) ?_ ?_
  · exact G_sub [] rfl (hx1 M)
  · refine G_aload_n (pc := 8) h.1 dX1_passToEnd_8 rfl 0 rfl ?_
    refine G_get (pc := 9) (v := .int (M (cI q0 0) 7)) h.1 fl_X1_94 (ids_c hq0 0 (by decide)) (eC0 hq0 _) rfl dX1_passToEnd_9 ?_
    refine G_if_le (pc := 12) (tgt := 25) h.1 dX1_passToEnd_12 (by decide) ?_ ?_
    · exact G_sub [] rfl (hx1 M)
    · refine G_aload_n (pc := 15) h.1 dX1_passToEnd_15 rfl 0 rfl ?_
      refine G_callVv (pc := 16) (As := []) (rest := []) h.1 h.2.2.1 lk_X1_114 (ids_c hq0 0 (by decide)) (eC0 hq0 _) rfl rfl (c_X1_passTick x.1.2.1 y hy q0 hq0 M) rfl rfl (Nat.le_of_ble_eq_true rfl) ⟨rfl, rfl, Nat.le_of_ble_eq_true rfl, Nat.le_of_ble_eq_true rfl⟩ dX1_passToEnd_16 (fun r2 M1 => ?_)
      refine G_iinc (pc := 19) (v := a1 + (1)) h.1 h.2.1 (fun v3 => [(1, .int v3), (0, .ref (y.2.1 (cI q0 0)))]) dX1_passToEnd_19 (by decide) 1 rfl rfl (fun _ => rfl) (fun v3 => ?_)
      refine G_goto (pc := 22) (tgt := 2) h.1 dX1_passToEnd_22 (by decide) ?_
      exact G_sub [1, 0] rfl (hb v3 M1)
set_option maxRecDepth 20000 in
theorem gd_X1_passToEnd_L2 {x : Cx} {y : Cy} (hy : Inj y) (h : OkM x y cX1_passToEnd RX1 2 none rX1_passToEnd) (q0 : Nat) (hq0 : q0 < 2) (kx1 : Mem → Ans) (hx1 : ∀ M0 : Mem, G x y 25 [] [] M0 (kx1 M0)) : ∀ (n : Nat) (a1 : Int32) (M : Mem), G x y 2 [(0, .ref (y.2.1 (cI q0 0))), (1, .int a1)] [] M (d_X1_passToEnd_L2 q0 kx1 n a1 M) := by
  intro n
  induction n with
  | zero => intro a1 M; exact G_none
  | succ n ih => intro a1 M; exact gd_X1_passToEnd_L2_body hy h q0 hq0 kx1 hx1 _ ih a1 M
set_option maxRecDepth 20000 in
theorem c_X1_passToEnd (l : Launch) (y : Cy) (hy : Inj y) (q0 : Nat) (hq0 : q0 < 2) (M : Mem) : CT l y yX1_passToEnd cX1_passToEnd 2 none rX1_passToEnd [.ref (y.2.1 (cI q0 0))] M (d_X1_passToEnd q0 M) := by
  refine CT_of (by decide) hy (Nat.le_of_ble_eq_true rfl) (fun x hxl h => ?_)
  show G x y 0 [(0, .ref (y.2.1 (cI q0 0)))] [] M _
  unfold d_X1_passToEnd
  refine G_iconst (pc := 0) (v := (0)) h.1 dX1_passToEnd_0 (by decide) ?_
  refine G_istore_n (pc := 1) h.1 h.2.1 [(1, .int (0 : Int32)), (0, .ref (y.2.1 (cI q0 0)))] dX1_passToEnd_1 rfl (by decide) rfl ?_
  refine G_sub [1, 0] rfl (gd_X1_passToEnd_L2 hy h q0 hq0 _ (fun M4 => ?_) fuelN (0 : Int32) M)
  exact G_vret (pc := 25) h dX1_passToEnd_25
theorem dX1_rowOf_0 : decode cX1_rowOf 0 = .ok (.iconst 0, 1) := by decide +kernel
theorem dX1_rowOf_1 : decode cX1_rowOf 1 = .ok (.istore_n 2, 1) := by decide +kernel
theorem dX1_rowOf_2 : decode cX1_rowOf 2 = .ok (.iload_n 2, 1) := by decide +kernel
theorem dX1_rowOf_3 : decode cX1_rowOf 3 = .ok (.aload_n 0, 1) := by decide +kernel
theorem dX1_rowOf_4 : decode cX1_rowOf 4 = .ok (.getfield 69, 3) := by decide +kernel
theorem dX1_rowOf_7 : decode cX1_rowOf 7 = .ok (.if_icmp .ge 21, 3) := by decide +kernel
theorem dX1_rowOf_10 : decode cX1_rowOf 10 = .ok (.aload_n 0, 1) := by decide +kernel
theorem dX1_rowOf_11 : decode cX1_rowOf 11 = .ok (.getfield 11, 3) := by decide +kernel
theorem dX1_rowOf_14 : decode cX1_rowOf 14 = .ok (.iload_n 2, 1) := by decide +kernel
theorem dX1_rowOf_15 : decode cX1_rowOf 15 = .ok (.iaload, 1) := by decide +kernel
theorem dX1_rowOf_16 : decode cX1_rowOf 16 = .ok (.iload_n 1, 1) := by decide +kernel
theorem dX1_rowOf_17 : decode cX1_rowOf 17 = .ok (.if_icmp .ne 5, 3) := by decide +kernel
theorem dX1_rowOf_20 : decode cX1_rowOf 20 = .ok (.iload_n 2, 1) := by decide +kernel
theorem dX1_rowOf_21 : decode cX1_rowOf 21 = .ok (.ireturn, 1) := by decide +kernel
theorem dX1_rowOf_22 : decode cX1_rowOf 22 = .ok (.iinc 2 1, 3) := by decide +kernel
theorem dX1_rowOf_25 : decode cX1_rowOf 25 = .ok (.goto (-23), 3) := by decide +kernel
theorem dX1_rowOf_28 : decode cX1_rowOf 28 = .ok (.iconst (-1), 1) := by decide +kernel
theorem dX1_rowOf_29 : decode cX1_rowOf 29 = .ok (.ireturn, 1) := by decide +kernel
abbrev rX1_rowOf : Room := { frames := 0, cells := 0, slots := 0, locals := 0 }
set_option maxRecDepth 20000 in
theorem gd_X1_rowOf_L2_body {x : Cx} {y : Cy} (hy : Inj y) (h : OkM x y cX1_rowOf RX1 3 (some .int) rX1_rowOf) (q0 : Nat) (hq0 : q0 < 2) (a1 : Int32) (kx1 : Mem → Ans) (hx1 : ∀ M0 : Mem, G x y 28 [] [] M0 (kx1 M0)) (kb : Int32 → Mem → Ans) (hb : ∀ (b2 : Int32), ∀ M0 : Mem, G x y 2 [(0, .ref (y.2.1 (cI q0 0))), (1, .int a1), (2, .int b2)] [] M0 (kb b2 M0)) (a2 : Int32) (M : Mem) : G x y 2 [(0, .ref (y.2.1 (cI q0 0))), (1, .int a1), (2, .int a2)] [] M (d_X1_rowOf_L2_body q0 a1 kx1 kb a2 M) := by
  unfold d_X1_rowOf_L2_body
  refine G_iload_n (pc := 2) h.1 dX1_rowOf_2 rfl 2 rfl ?_
  refine G_aload_n (pc := 3) h.1 dX1_rowOf_3 rfl 0 rfl ?_
  refine G_get (pc := 4) (v := .int (M (cI q0 0) 6)) h.1 fl_X1_69 (ids_c hq0 0 (by decide)) (eC0 hq0 _) rfl dX1_rowOf_4 ?_
  refine G_icmp_ge (pc := 7) (tgt := 28) h.1 dX1_rowOf_7 (by decide) ?_ ?_
  · exact G_sub [] rfl (hx1 M)
  · refine G_aload_n (pc := 10) h.1 dX1_rowOf_10 rfl 0 rfl ?_
    refine G_get (pc := 11) (v := .ref (y.2.1 (cI q0 1))) h.1 fl_X1_11 (ids_c hq0 0 (by decide)) (eC0 hq0 _) rfl dX1_rowOf_11 ?_
    refine G_iload_n (pc := 14) h.1 dX1_rowOf_14 rfl 2 rfl ?_
    refine G_iald (pc := 15) h.1 (ids_c hq0 1 (by decide)) (eC1 hq0 _) dX1_rowOf_15 ?_
    refine G_iload_n (pc := 16) h.1 dX1_rowOf_16 rfl 1 rfl ?_
    refine G_icmp_ne (pc := 17) (tgt := 22) h.1 dX1_rowOf_17 (by decide) ?_ ?_
    · refine G_iinc (pc := 22) (v := a2 + (1)) h.1 h.2.1 (fun v1 => [(2, .int v1), (0, .ref (y.2.1 (cI q0 0))), (1, .int a1)]) dX1_rowOf_22 (by decide) 2 rfl rfl (fun _ => rfl) (fun v1 => ?_)
      refine G_goto (pc := 25) (tgt := 2) h.1 dX1_rowOf_25 (by decide) ?_
      exact G_sub [1, 2, 0] rfl (hb v1 M)
    · refine G_iload_n (pc := 20) h.1 dX1_rowOf_20 rfl 2 rfl ?_
      exact G_ret (pc := 21) h rfl dX1_rowOf_21
set_option maxRecDepth 20000 in
theorem gd_X1_rowOf_L2 {x : Cx} {y : Cy} (hy : Inj y) (h : OkM x y cX1_rowOf RX1 3 (some .int) rX1_rowOf) (q0 : Nat) (hq0 : q0 < 2) (a1 : Int32) (kx1 : Mem → Ans) (hx1 : ∀ M0 : Mem, G x y 28 [] [] M0 (kx1 M0)) : ∀ (n : Nat) (a2 : Int32) (M : Mem), G x y 2 [(0, .ref (y.2.1 (cI q0 0))), (1, .int a1), (2, .int a2)] [] M (d_X1_rowOf_L2 q0 a1 kx1 n a2 M) := by
  intro n
  induction n with
  | zero => intro a2 M; exact G_none
  | succ n ih => intro a2 M; exact gd_X1_rowOf_L2_body hy h q0 hq0 a1 kx1 hx1 _ ih a2 M
set_option maxRecDepth 20000 in
theorem c_X1_rowOf (l : Launch) (y : Cy) (hy : Inj y) (q0 : Nat) (hq0 : q0 < 2) (p1 : Int32) (M : Mem) : CT l y yX1_rowOf cX1_rowOf 3 (some .int) rX1_rowOf [.ref (y.2.1 (cI q0 0)), .int p1] M (d_X1_rowOf q0 p1 M) := by
  refine CT_of (by decide) hy (Nat.le_of_ble_eq_true rfl) (fun x hxl h => ?_)
  show G x y 0 [(0, .ref (y.2.1 (cI q0 0))), (1, .int p1)] [] M _
  unfold d_X1_rowOf
  refine G_iconst (pc := 0) (v := (0)) h.1 dX1_rowOf_0 (by decide) ?_
  refine G_istore_n (pc := 1) h.1 h.2.1 [(2, .int (0 : Int32)), (0, .ref (y.2.1 (cI q0 0))), (1, .int p1)] dX1_rowOf_1 rfl (by decide) rfl ?_
  refine G_sub [1, 2, 0] rfl (gd_X1_rowOf_L2 hy h q0 hq0 p1 _ (fun M2 => ?_) fuelN (0 : Int32) M)
  refine G_iconst (pc := 28) (v := (-1)) h.1 dX1_rowOf_28 (by decide) ?_
  exact G_ret (pc := 29) h rfl dX1_rowOf_29
theorem dX1_countSpoiled_0 : decode cX1_countSpoiled 0 = .ok (.iconst 0, 1) := by decide +kernel
theorem dX1_countSpoiled_1 : decode cX1_countSpoiled 1 = .ok (.istore_n 1, 1) := by decide +kernel
theorem dX1_countSpoiled_2 : decode cX1_countSpoiled 2 = .ok (.iconst 0, 1) := by decide +kernel
theorem dX1_countSpoiled_3 : decode cX1_countSpoiled 3 = .ok (.istore_n 2, 1) := by decide +kernel
theorem dX1_countSpoiled_4 : decode cX1_countSpoiled 4 = .ok (.iload_n 2, 1) := by decide +kernel
theorem dX1_countSpoiled_5 : decode cX1_countSpoiled 5 = .ok (.aload_n 0, 1) := by decide +kernel
theorem dX1_countSpoiled_6 : decode cX1_countSpoiled 6 = .ok (.getfield 69, 3) := by decide +kernel
theorem dX1_countSpoiled_9 : decode cX1_countSpoiled 9 = .ok (.if_icmp .ge 22, 3) := by decide +kernel
theorem dX1_countSpoiled_12 : decode cX1_countSpoiled 12 = .ok (.aload_n 0, 1) := by decide +kernel
theorem dX1_countSpoiled_13 : decode cX1_countSpoiled 13 = .ok (.getfield 15, 3) := by decide +kernel
theorem dX1_countSpoiled_16 : decode cX1_countSpoiled 16 = .ok (.iload_n 2, 1) := by decide +kernel
theorem dX1_countSpoiled_17 : decode cX1_countSpoiled 17 = .ok (.iaload, 1) := by decide +kernel
theorem dX1_countSpoiled_18 : decode cX1_countSpoiled 18 = .ok (.iconst 3, 1) := by decide +kernel
theorem dX1_countSpoiled_19 : decode cX1_countSpoiled 19 = .ok (.if_icmp .ne 6, 3) := by decide +kernel
theorem dX1_countSpoiled_22 : decode cX1_countSpoiled 22 = .ok (.iinc 1 1, 3) := by decide +kernel
theorem dX1_countSpoiled_25 : decode cX1_countSpoiled 25 = .ok (.iinc 2 1, 3) := by decide +kernel
theorem dX1_countSpoiled_28 : decode cX1_countSpoiled 28 = .ok (.goto (-24), 3) := by decide +kernel
theorem dX1_countSpoiled_31 : decode cX1_countSpoiled 31 = .ok (.iload_n 1, 1) := by decide +kernel
theorem dX1_countSpoiled_32 : decode cX1_countSpoiled 32 = .ok (.ireturn, 1) := by decide +kernel
abbrev rX1_countSpoiled : Room := { frames := 0, cells := 0, slots := 0, locals := 0 }
set_option maxRecDepth 20000 in
theorem gd_X1_countSpoiled_B25 {x : Cx} {y : Cy} (hy : Inj y) (h : OkM x y cX1_countSpoiled RX1 3 (some .int) rX1_countSpoiled) (q0 : Nat) (hq0 : q0 < 2) (kx1 : Int32 → Mem → Ans) (kb : Int32 → Int32 → Mem → Ans) (a1 : Int32) (a2 : Int32) (hx1 : ∀ (b1 : Int32), ∀ M0 : Mem, G x y 31 [(1, .int b1)] [] M0 (kx1 b1 M0)) (hb : ∀ (b1 b2 : Int32), ∀ M0 : Mem, G x y 4 [(0, .ref (y.2.1 (cI q0 0))), (1, .int b1), (2, .int b2)] [] M0 (kb b1 b2 M0)) (M : Mem) : G x y 25 [(0, .ref (y.2.1 (cI q0 0))), (1, .int a1), (2, .int a2)] [] M (d_X1_countSpoiled_B25 q0 kx1 kb a1 a2 M) := by
  unfold d_X1_countSpoiled_B25
  refine G_iinc (pc := 25) (v := a2 + (1)) h.1 h.2.1 (fun v1 => [(2, .int v1), (0, .ref (y.2.1 (cI q0 0))), (1, .int a1)]) dX1_countSpoiled_25 (by decide) 2 rfl rfl (fun _ => rfl) (fun v1 => ?_)
  refine G_goto (pc := 28) (tgt := 4) h.1 dX1_countSpoiled_28 (by decide) ?_
  exact G_sub [1, 2, 0] rfl (hb a1 v1 M)
set_option maxRecDepth 20000 in
theorem gd_X1_countSpoiled_L4_body {x : Cx} {y : Cy} (hy : Inj y) (h : OkM x y cX1_countSpoiled RX1 3 (some .int) rX1_countSpoiled) (q0 : Nat) (hq0 : q0 < 2) (kx1 : Int32 → Mem → Ans) (hx1 : ∀ (b1 : Int32), ∀ M0 : Mem, G x y 31 [(1, .int b1)] [] M0 (kx1 b1 M0)) (kb : Int32 → Int32 → Mem → Ans) (hb : ∀ (b1 b2 : Int32), ∀ M0 : Mem, G x y 4 [(0, .ref (y.2.1 (cI q0 0))), (1, .int b1), (2, .int b2)] [] M0 (kb b1 b2 M0)) (a1 : Int32) (a2 : Int32) (M : Mem) : G x y 4 [(0, .ref (y.2.1 (cI q0 0))), (1, .int a1), (2, .int a2)] [] M (d_X1_countSpoiled_L4_body q0 kx1 kb a1 a2 M) := by
  unfold d_X1_countSpoiled_L4_body
  refine G_iload_n (pc := 4) h.1 dX1_countSpoiled_4 rfl 2 rfl ?_
  refine G_aload_n (pc := 5) h.1 dX1_countSpoiled_5 rfl 0 rfl ?_
  refine G_get (pc := 6) (v := .int (M (cI q0 0) 6)) h.1 fl_X1_69 (ids_c hq0 0 (by decide)) (eC0 hq0 _) rfl dX1_countSpoiled_6 ?_
  refine G_icmp_ge (pc := 9) (tgt := 31) h.1 dX1_countSpoiled_9 (by decide) ?_ ?_
  · exact G_sub [1] rfl (hx1 a1 M)
  · refine G_aload_n (pc := 12) h.1 dX1_countSpoiled_12 rfl 0 rfl ?_
    refine G_get (pc := 13) (v := .ref (y.2.1 (cI q0 2))) h.1 fl_X1_15 (ids_c hq0 0 (by decide)) (eC0 hq0 _) rfl dX1_countSpoiled_13 ?_
    refine G_iload_n (pc := 16) h.1 dX1_countSpoiled_16 rfl 2 rfl ?_
    refine G_iald (pc := 17) h.1 (ids_c hq0 2 (by decide)) (eC2 hq0 _) dX1_countSpoiled_17 ?_
    refine G_iconst (pc := 18) (v := (3)) h.1 dX1_countSpoiled_18 (by decide) ?_
    refine G_icmp_ne (pc := 19) (tgt := 25) h.1 dX1_countSpoiled_19 (by decide) ?_ ?_
    · exact G_sub [0, 1, 2] rfl (gd_X1_countSpoiled_B25 hy h q0 hq0 kx1 kb a1 a2 hx1 hb M)
    · refine G_iinc (pc := 22) (v := a1 + (1)) h.1 h.2.1 (fun v2 => [(1, .int v2), (0, .ref (y.2.1 (cI q0 0))), (2, .int a2)]) dX1_countSpoiled_22 (by decide) 1 rfl rfl (fun _ => rfl) (fun v2 => ?_)
      exact G_sub [1, 0, 2] rfl (gd_X1_countSpoiled_B25 hy h q0 hq0 kx1 kb v2 a2 hx1 hb M)
set_option maxRecDepth 20000 in
theorem gd_X1_countSpoiled_L4 {x : Cx} {y : Cy} (hy : Inj y) (h : OkM x y cX1_countSpoiled RX1 3 (some .int) rX1_countSpoiled) (q0 : Nat) (hq0 : q0 < 2) (kx1 : Int32 → Mem → Ans) (hx1 : ∀ (b1 : Int32), ∀ M0 : Mem, G x y 31 [(1, .int b1)] [] M0 (kx1 b1 M0)) : ∀ (n : Nat) (a1 : Int32) (a2 : Int32) (M : Mem), G x y 4 [(0, .ref (y.2.1 (cI q0 0))), (1, .int a1), (2, .int a2)] [] M (d_X1_countSpoiled_L4 q0 kx1 n a1 a2 M) := by
  intro n
  induction n with
  | zero => intro a1 a2 M; exact G_none
  | succ n ih => intro a1 a2 M; exact gd_X1_countSpoiled_L4_body hy h q0 hq0 kx1 hx1 _ ih a1 a2 M
set_option maxRecDepth 20000 in
theorem c_X1_countSpoiled (l : Launch) (y : Cy) (hy : Inj y) (q0 : Nat) (hq0 : q0 < 2) (M : Mem) : CT l y yX1_countSpoiled cX1_countSpoiled 3 (some .int) rX1_countSpoiled [.ref (y.2.1 (cI q0 0))] M (d_X1_countSpoiled q0 M) := by
  refine CT_of (by decide) hy (Nat.le_of_ble_eq_true rfl) (fun x hxl h => ?_)
  show G x y 0 [(0, .ref (y.2.1 (cI q0 0)))] [] M _
  unfold d_X1_countSpoiled
  refine G_iconst (pc := 0) (v := (0)) h.1 dX1_countSpoiled_0 (by decide) ?_
  refine G_istore_n (pc := 1) h.1 h.2.1 [(1, .int (0 : Int32)), (0, .ref (y.2.1 (cI q0 0)))] dX1_countSpoiled_1 rfl (by decide) rfl ?_
  refine G_iconst (pc := 2) (v := (0)) h.1 dX1_countSpoiled_2 (by decide) ?_
  refine G_istore_n (pc := 3) h.1 h.2.1 [(2, .int (0 : Int32)), (1, .int (0 : Int32)), (0, .ref (y.2.1 (cI q0 0)))] dX1_countSpoiled_3 rfl (by decide) rfl ?_
  refine G_sub [2, 1, 0] rfl (gd_X1_countSpoiled_L4 hy h q0 hq0 _ (fun v3 M4 => ?_) fuelN (0 : Int32) (0 : Int32) M)
  refine G_iload_n (pc := 31) h.1 dX1_countSpoiled_31 rfl 0 rfl ?_
  exact G_ret (pc := 32) h rfl dX1_countSpoiled_32
theorem dX2_dropOldest_0 : decode cX2_dropOldest 0 = .ok (.aload_n 0, 1) := by decide +kernel
theorem dX2_dropOldest_1 : decode cX2_dropOldest 1 = .ok (.getfield 11, 3) := by decide +kernel
theorem dX2_dropOldest_4 : decode cX2_dropOldest 4 = .ok (.iconst 0, 1) := by decide +kernel
theorem dX2_dropOldest_5 : decode cX2_dropOldest 5 = .ok (.aaload, 1) := by decide +kernel
theorem dX2_dropOldest_6 : decode cX2_dropOldest 6 = .ok (.astore_n 1, 1) := by decide +kernel
theorem dX2_dropOldest_7 : decode cX2_dropOldest 7 = .ok (.iconst 1, 1) := by decide +kernel
theorem dX2_dropOldest_8 : decode cX2_dropOldest 8 = .ok (.istore_n 2, 1) := by decide +kernel
theorem dX2_dropOldest_9 : decode cX2_dropOldest 9 = .ok (.iload_n 2, 1) := by decide +kernel
theorem dX2_dropOldest_10 : decode cX2_dropOldest 10 = .ok (.iconst 4, 1) := by decide +kernel
theorem dX2_dropOldest_11 : decode cX2_dropOldest 11 = .ok (.if_icmp .ge 23, 3) := by decide +kernel
theorem dX2_dropOldest_14 : decode cX2_dropOldest 14 = .ok (.aload_n 0, 1) := by decide +kernel
theorem dX2_dropOldest_15 : decode cX2_dropOldest 15 = .ok (.getfield 11, 3) := by decide +kernel
theorem dX2_dropOldest_18 : decode cX2_dropOldest 18 = .ok (.iload_n 2, 1) := by decide +kernel
theorem dX2_dropOldest_19 : decode cX2_dropOldest 19 = .ok (.iconst 1, 1) := by decide +kernel
theorem dX2_dropOldest_20 : decode cX2_dropOldest 20 = .ok (.isub, 1) := by decide +kernel
theorem dX2_dropOldest_21 : decode cX2_dropOldest 21 = .ok (.aload_n 0, 1) := by decide +kernel
theorem dX2_dropOldest_22 : decode cX2_dropOldest 22 = .ok (.getfield 11, 3) := by decide +kernel
theorem dX2_dropOldest_25 : decode cX2_dropOldest 25 = .ok (.iload_n 2, 1) := by decide +kernel
theorem dX2_dropOldest_26 : decode cX2_dropOldest 26 = .ok (.aaload, 1) := by decide +kernel
theorem dX2_dropOldest_27 : decode cX2_dropOldest 27 = .ok (.aastore, 1) := by decide +kernel
theorem dX2_dropOldest_28 : decode cX2_dropOldest 28 = .ok (.iinc 2 1, 3) := by decide +kernel
theorem dX2_dropOldest_31 : decode cX2_dropOldest 31 = .ok (.goto (-22), 3) := by decide +kernel
theorem dX2_dropOldest_34 : decode cX2_dropOldest 34 = .ok (.aload_n 0, 1) := by decide +kernel
theorem dX2_dropOldest_35 : decode cX2_dropOldest 35 = .ok (.getfield 11, 3) := by decide +kernel
theorem dX2_dropOldest_38 : decode cX2_dropOldest 38 = .ok (.iconst 3, 1) := by decide +kernel
theorem dX2_dropOldest_39 : decode cX2_dropOldest 39 = .ok (.aload_n 1, 1) := by decide +kernel
theorem dX2_dropOldest_40 : decode cX2_dropOldest 40 = .ok (.aastore, 1) := by decide +kernel
theorem dX2_dropOldest_41 : decode cX2_dropOldest 41 = .ok (.aload_n 0, 1) := by decide +kernel
theorem dX2_dropOldest_42 : decode cX2_dropOldest 42 = .ok (.dup, 1) := by decide +kernel
theorem dX2_dropOldest_43 : decode cX2_dropOldest 43 = .ok (.getfield 18, 3) := by decide +kernel
theorem dX2_dropOldest_46 : decode cX2_dropOldest 46 = .ok (.iconst 1, 1) := by decide +kernel
theorem dX2_dropOldest_47 : decode cX2_dropOldest 47 = .ok (.isub, 1) := by decide +kernel
theorem dX2_dropOldest_48 : decode cX2_dropOldest 48 = .ok (.putfield 18, 3) := by decide +kernel
theorem dX2_dropOldest_51 : decode cX2_dropOldest 51 = .ok (.return_, 1) := by decide +kernel
abbrev rX2_dropOldest : Room := { frames := 0, cells := 0, slots := 0, locals := 0 }
set_option maxRecDepth 20000 in
theorem gd_X2_dropOldest_L9_body {x : Cx} {y : Cy} (hy : Inj y) (h : OkM x y cX2_dropOldest RX2 3 none rX2_dropOldest) (q1 : Nat) (hq1 : q1 < 7) (kx1 : Mem → Ans) (hx1 : ∀ M0 : Mem, G x y 34 [(0, .ref (y.2.1 134)), (1, .ref (y.2.1 (sI q1 0)))] [] M0 (kx1 M0)) (kb : Int32 → Mem → Ans) (hb : ∀ (b2 : Int32), ∀ M0 : Mem, G x y 9 [(0, .ref (y.2.1 134)), (1, .ref (y.2.1 (sI q1 0))), (2, .int b2)] [] M0 (kb b2 M0)) (a2 : Int32) (M : Mem) : G x y 9 [(0, .ref (y.2.1 134)), (1, .ref (y.2.1 (sI q1 0))), (2, .int a2)] [] M (d_X2_dropOldest_L9_body q1 kx1 kb a2 M) := by
  unfold d_X2_dropOldest_L9_body
  refine G_iload_n (pc := 9) h.1 dX2_dropOldest_9 rfl 2 rfl ?_
  refine G_iconst (pc := 10) (v := (4)) h.1 dX2_dropOldest_10 (by decide) ?_
  refine G_icmp_ge (pc := 11) (tgt := 34) h.1 dX2_dropOldest_11 (by decide) ?_ ?_
  · exact G_sub [0, 1] rfl (hx1 M)
  · refine G_aload_n (pc := 14) h.1 dX2_dropOldest_14 rfl 0 rfl ?_
    refine G_get (pc := 15) (v := .ref (y.2.1 135)) h.1 fl_X2_11 lN134 (eM134 _) rfl dX2_dropOldest_15 ?_
    refine G_iload_n (pc := 18) h.1 dX2_dropOldest_18 rfl 2 rfl ?_
    refine G_iconst (pc := 19) (v := (1)) h.1 dX2_dropOldest_19 (by decide) ?_
    refine G_isub (pc := 20) h.1 dX2_dropOldest_20 ?_
    refine G_aload_n (pc := 21) h.1 dX2_dropOldest_21 rfl 0 rfl ?_
    refine G_get (pc := 22) (v := .ref (y.2.1 135)) h.1 fl_X2_11 lN134 (eM134 _) rfl dX2_dropOldest_22 ?_
    refine G_iload_n (pc := 25) h.1 dX2_dropOldest_25 rfl 2 rfl ?_
    refine G_aald (pc := 26) h.1 dX2_dropOldest_26 (fun q2 hq2 => ?_)
    refine G_aast (pc := 27) h.1 hq2 dX2_dropOldest_27 (fun M3 => ?_)
    refine G_iinc (pc := 28) (v := a2 + (1)) h.1 h.2.1 (fun v4 => [(2, .int v4), (0, .ref (y.2.1 134)), (1, .ref (y.2.1 (sI q1 0)))]) dX2_dropOldest_28 (by decide) 2 rfl rfl (fun _ => rfl) (fun v4 => ?_)
    refine G_goto (pc := 31) (tgt := 9) h.1 dX2_dropOldest_31 (by decide) ?_
    exact G_sub [1, 2, 0] rfl (hb v4 M3)
set_option maxRecDepth 20000 in
theorem gd_X2_dropOldest_L9 {x : Cx} {y : Cy} (hy : Inj y) (h : OkM x y cX2_dropOldest RX2 3 none rX2_dropOldest) (q1 : Nat) (hq1 : q1 < 7) (kx1 : Mem → Ans) (hx1 : ∀ M0 : Mem, G x y 34 [(0, .ref (y.2.1 134)), (1, .ref (y.2.1 (sI q1 0)))] [] M0 (kx1 M0)) : ∀ (n : Nat) (a2 : Int32) (M : Mem), G x y 9 [(0, .ref (y.2.1 134)), (1, .ref (y.2.1 (sI q1 0))), (2, .int a2)] [] M (d_X2_dropOldest_L9 q1 kx1 n a2 M) := by
  intro n
  induction n with
  | zero => intro a2 M; exact G_none
  | succ n ih => intro a2 M; exact gd_X2_dropOldest_L9_body hy h q1 hq1 kx1 hx1 _ ih a2 M
set_option maxRecDepth 20000 in
theorem c_X2_dropOldest (l : Launch) (y : Cy) (hy : Inj y) (M : Mem) : CT l y yX2_dropOldest cX2_dropOldest 3 none rX2_dropOldest [.ref (y.2.1 134)] M (d_X2_dropOldest M) := by
  refine CT_of (by decide) hy (Nat.le_of_ble_eq_true rfl) (fun x hxl h => ?_)
  show G x y 0 [(0, .ref (y.2.1 134))] [] M _
  unfold d_X2_dropOldest
  refine G_aload_n (pc := 0) h.1 dX2_dropOldest_0 rfl 0 rfl ?_
  refine G_get (pc := 1) (v := .ref (y.2.1 135)) h.1 fl_X2_11 lN134 (eM134 _) rfl dX2_dropOldest_1 ?_
  refine G_iconst (pc := 4) (v := (0)) h.1 dX2_dropOldest_4 (by decide) ?_
  refine G_aald (pc := 5) h.1 dX2_dropOldest_5 (fun q1 hq1 => ?_)
  refine G_astore_n (pc := 6) h.1 h.2.1 [(1, .ref (y.2.1 (sI q1 0))), (0, .ref (y.2.1 134))] dX2_dropOldest_6 rfl (by decide) rfl ?_
  refine G_iconst (pc := 7) (v := (1)) h.1 dX2_dropOldest_7 (by decide) ?_
  refine G_istore_n (pc := 8) h.1 h.2.1 [(2, .int (1 : Int32)), (1, .ref (y.2.1 (sI q1 0))), (0, .ref (y.2.1 134))] dX2_dropOldest_8 rfl (by decide) rfl ?_
  refine G_sub [2, 1, 0] rfl (gd_X2_dropOldest_L9 hy h q1 hq1 _ (fun M5 => ?_) fuelN (1 : Int32) M)
  refine G_aload_n (pc := 34) h.1 dX2_dropOldest_34 rfl 0 rfl ?_
  refine G_get (pc := 35) (v := .ref (y.2.1 135)) h.1 fl_X2_11 lN134 (eM134 _) rfl dX2_dropOldest_35 ?_
  refine G_iconst (pc := 38) (v := (3)) h.1 dX2_dropOldest_38 (by decide) ?_
  refine G_aload_n (pc := 39) h.1 dX2_dropOldest_39 rfl 1 rfl ?_
  refine G_aast (pc := 40) h.1 hq1 dX2_dropOldest_40 (fun M6 => ?_)
  refine G_aload_n (pc := 41) h.1 dX2_dropOldest_41 rfl 0 rfl ?_
  refine G_dup (pc := 42) h.1 dX2_dropOldest_42 rfl ?_
  refine G_get (pc := 43) (v := .int (M6 134 1)) h.1 fl_X2_18 lN134 (eM134 _) rfl dX2_dropOldest_43 ?_
  refine G_iconst (pc := 46) (v := (1)) h.1 dX2_dropOldest_46 (by decide) ?_
  refine G_isub (pc := 47) h.1 dX2_dropOldest_47 ?_
  refine G_put (pc := 48) h.1 fp_X2_18 lN134 (fun m => eM134 m) (fun _ => rfl) (fun _ => Nat.le_of_ble_eq_true rfl) rfl rfl dX2_dropOldest_48 (fun M7 => ?_)
  exact G_vret (pc := 51) h dX2_dropOldest_51
theorem dX4_copyFrom_0 : decode cX4_copyFrom 0 = .ok (.aload_n 0, 1) := by decide +kernel
theorem dX4_copyFrom_1 : decode cX4_copyFrom 1 = .ok (.aload_n 1, 1) := by decide +kernel
theorem dX4_copyFrom_2 : decode cX4_copyFrom 2 = .ok (.getfield 24, 3) := by decide +kernel
theorem dX4_copyFrom_5 : decode cX4_copyFrom 5 = .ok (.putfield 24, 3) := by decide +kernel
theorem dX4_copyFrom_8 : decode cX4_copyFrom 8 = .ok (.aload_n 1, 1) := by decide +kernel
theorem dX4_copyFrom_9 : decode cX4_copyFrom 9 = .ok (.getfield 9, 3) := by decide +kernel
theorem dX4_copyFrom_12 : decode cX4_copyFrom 12 = .ok (.iconst 0, 1) := by decide +kernel
theorem dX4_copyFrom_13 : decode cX4_copyFrom 13 = .ok (.aload_n 0, 1) := by decide +kernel
theorem dX4_copyFrom_14 : decode cX4_copyFrom 14 = .ok (.getfield 9, 3) := by decide +kernel
theorem dX4_copyFrom_17 : decode cX4_copyFrom 17 = .ok (.iconst 0, 1) := by decide +kernel
theorem dX4_copyFrom_18 : decode cX4_copyFrom 18 = .ok (.bipush 8, 2) := by decide +kernel
theorem dX4_copyFrom_20 : decode cX4_copyFrom 20 = .ok (.invokestatic 32, 3) := by decide +kernel
theorem dX4_copyFrom_23 : decode cX4_copyFrom 23 = .ok (.aload_n 1, 1) := by decide +kernel
theorem dX4_copyFrom_24 : decode cX4_copyFrom 24 = .ok (.getfield 15, 3) := by decide +kernel
theorem dX4_copyFrom_27 : decode cX4_copyFrom 27 = .ok (.iconst 0, 1) := by decide +kernel
theorem dX4_copyFrom_28 : decode cX4_copyFrom 28 = .ok (.aload_n 0, 1) := by decide +kernel
theorem dX4_copyFrom_29 : decode cX4_copyFrom 29 = .ok (.getfield 15, 3) := by decide +kernel
theorem dX4_copyFrom_32 : decode cX4_copyFrom 32 = .ok (.iconst 0, 1) := by decide +kernel
theorem dX4_copyFrom_33 : decode cX4_copyFrom 33 = .ok (.bipush 8, 2) := by decide +kernel
theorem dX4_copyFrom_35 : decode cX4_copyFrom 35 = .ok (.invokestatic 32, 3) := by decide +kernel
theorem dX4_copyFrom_38 : decode cX4_copyFrom 38 = .ok (.aload_n 1, 1) := by decide +kernel
theorem dX4_copyFrom_39 : decode cX4_copyFrom 39 = .ok (.getfield 18, 3) := by decide +kernel
theorem dX4_copyFrom_42 : decode cX4_copyFrom 42 = .ok (.iconst 0, 1) := by decide +kernel
theorem dX4_copyFrom_43 : decode cX4_copyFrom 43 = .ok (.aload_n 0, 1) := by decide +kernel
theorem dX4_copyFrom_44 : decode cX4_copyFrom 44 = .ok (.getfield 18, 3) := by decide +kernel
theorem dX4_copyFrom_47 : decode cX4_copyFrom 47 = .ok (.iconst 0, 1) := by decide +kernel
theorem dX4_copyFrom_48 : decode cX4_copyFrom 48 = .ok (.bipush 8, 2) := by decide +kernel
theorem dX4_copyFrom_50 : decode cX4_copyFrom 50 = .ok (.invokestatic 32, 3) := by decide +kernel
theorem dX4_copyFrom_53 : decode cX4_copyFrom 53 = .ok (.aload_n 1, 1) := by decide +kernel
theorem dX4_copyFrom_54 : decode cX4_copyFrom 54 = .ok (.getfield 21, 3) := by decide +kernel
theorem dX4_copyFrom_57 : decode cX4_copyFrom 57 = .ok (.iconst 0, 1) := by decide +kernel
theorem dX4_copyFrom_58 : decode cX4_copyFrom 58 = .ok (.aload_n 0, 1) := by decide +kernel
theorem dX4_copyFrom_59 : decode cX4_copyFrom 59 = .ok (.getfield 21, 3) := by decide +kernel
theorem dX4_copyFrom_62 : decode cX4_copyFrom 62 = .ok (.iconst 0, 1) := by decide +kernel
theorem dX4_copyFrom_63 : decode cX4_copyFrom 63 = .ok (.bipush 8, 2) := by decide +kernel
theorem dX4_copyFrom_65 : decode cX4_copyFrom 65 = .ok (.invokestatic 32, 3) := by decide +kernel
theorem dX4_copyFrom_68 : decode cX4_copyFrom 68 = .ok (.return_, 1) := by decide +kernel
abbrev rX4_copyFrom : Room := { frames := 1, cells := 0, slots := 0, locals := 18 }
set_option maxRecDepth 20000 in
theorem c_X4_copyFrom (l : Launch) (y : Cy) (hy : Inj y) (q0 : Nat) (q1 : Nat) (hq0 : q0 < 7) (hq1 : q1 < 7) (M : Mem) : CT l y yX4_copyFrom cX4_copyFrom 2 none rX4_copyFrom [.ref (y.2.1 (sI q0 1)), .ref (y.2.1 (sI q1 1))] M (d_X4_copyFrom q0 q1 M) := by
  refine CT_of (by decide) hy (Nat.le_of_ble_eq_true rfl) (fun x hxl h => ?_)
  show G x y 0 [(0, .ref (y.2.1 (sI q0 1))), (1, .ref (y.2.1 (sI q1 1)))] [] M _
  unfold d_X4_copyFrom
  refine G_aload_n (pc := 0) h.1 dX4_copyFrom_0 rfl 0 rfl ?_
  refine G_aload_n (pc := 1) h.1 dX4_copyFrom_1 rfl 1 rfl ?_
  refine G_get (pc := 2) (v := .int (M (sI q1 1) 0)) h.1 fl_X4_24 (ids_s hq1 1 (by decide)) (eS1 hq1 _) rfl dX4_copyFrom_2 ?_
  refine G_put (pc := 5) h.1 fp_X4_24 (ids_s hq0 1 (by decide)) (fun m => eS1 hq0 m) (fun _ => rfl) (fun _ => Nat.le_of_ble_eq_true rfl) rfl rfl dX4_copyFrom_5 (fun M1 => ?_)
  refine G_aload_n (pc := 8) h.1 dX4_copyFrom_8 rfl 1 rfl ?_
  refine G_get (pc := 9) (v := .ref (y.2.1 (sI q1 2))) h.1 fl_X4_9 (ids_s hq1 1 (by decide)) (eS1 hq1 _) rfl dX4_copyFrom_9 ?_
  refine G_iconst (pc := 12) (v := (0)) h.1 dX4_copyFrom_12 (by decide) ?_
  refine G_aload_n (pc := 13) h.1 dX4_copyFrom_13 rfl 0 rfl ?_
  refine G_get (pc := 14) (v := .ref (y.2.1 (sI q0 2))) h.1 fl_X4_9 (ids_s hq0 1 (by decide)) (eS1 hq0 _) rfl dX4_copyFrom_14 ?_
  refine G_iconst (pc := 17) (v := (0)) h.1 dX4_copyFrom_17 (by decide) ?_
  refine G_bipush (pc := 18) (v := (8)) h.1 dX4_copyFrom_18 (by decide) ?_
  refine G_copy (pc := 20) h.1 h.2.2.1 mc_X4_32 (ids_s hq1 2 (by decide)) (ids_s hq0 2 (by decide)) (eS2 hq1 _) (fun m => eS2 hq0 m) (by decide) (by decide) dX4_copyFrom_20 (Nat.le_of_ble_eq_true rfl) (Nat.le_of_ble_eq_true rfl) (fun M2 => ?_)
  refine G_aload_n (pc := 23) h.1 dX4_copyFrom_23 rfl 1 rfl ?_
  refine G_get (pc := 24) (v := .ref (y.2.1 (sI q1 3))) h.1 fl_X4_15 (ids_s hq1 1 (by decide)) (eS1 hq1 _) rfl dX4_copyFrom_24 ?_
  refine G_iconst (pc := 27) (v := (0)) h.1 dX4_copyFrom_27 (by decide) ?_
  refine G_aload_n (pc := 28) h.1 dX4_copyFrom_28 rfl 0 rfl ?_
  refine G_get (pc := 29) (v := .ref (y.2.1 (sI q0 3))) h.1 fl_X4_15 (ids_s hq0 1 (by decide)) (eS1 hq0 _) rfl dX4_copyFrom_29 ?_
  refine G_iconst (pc := 32) (v := (0)) h.1 dX4_copyFrom_32 (by decide) ?_
  refine G_bipush (pc := 33) (v := (8)) h.1 dX4_copyFrom_33 (by decide) ?_
  refine G_copy (pc := 35) h.1 h.2.2.1 mc_X4_32 (ids_s hq1 3 (by decide)) (ids_s hq0 3 (by decide)) (eS3 hq1 _) (fun m => eS3 hq0 m) (by decide) (by decide) dX4_copyFrom_35 (Nat.le_of_ble_eq_true rfl) (Nat.le_of_ble_eq_true rfl) (fun M3 => ?_)
  refine G_aload_n (pc := 38) h.1 dX4_copyFrom_38 rfl 1 rfl ?_
  refine G_get (pc := 39) (v := .ref (y.2.1 (sI q1 4))) h.1 fl_X4_18 (ids_s hq1 1 (by decide)) (eS1 hq1 _) rfl dX4_copyFrom_39 ?_
  refine G_iconst (pc := 42) (v := (0)) h.1 dX4_copyFrom_42 (by decide) ?_
  refine G_aload_n (pc := 43) h.1 dX4_copyFrom_43 rfl 0 rfl ?_
  refine G_get (pc := 44) (v := .ref (y.2.1 (sI q0 4))) h.1 fl_X4_18 (ids_s hq0 1 (by decide)) (eS1 hq0 _) rfl dX4_copyFrom_44 ?_
  refine G_iconst (pc := 47) (v := (0)) h.1 dX4_copyFrom_47 (by decide) ?_
  refine G_bipush (pc := 48) (v := (8)) h.1 dX4_copyFrom_48 (by decide) ?_
  refine G_copy (pc := 50) h.1 h.2.2.1 mc_X4_32 (ids_s hq1 4 (by decide)) (ids_s hq0 4 (by decide)) (eS4 hq1 _) (fun m => eS4 hq0 m) (by decide) (by decide) dX4_copyFrom_50 (Nat.le_of_ble_eq_true rfl) (Nat.le_of_ble_eq_true rfl) (fun M4 => ?_)
  refine G_aload_n (pc := 53) h.1 dX4_copyFrom_53 rfl 1 rfl ?_
  refine G_get (pc := 54) (v := .ref (y.2.1 (sI q1 5))) h.1 fl_X4_21 (ids_s hq1 1 (by decide)) (eS1 hq1 _) rfl dX4_copyFrom_54 ?_
  refine G_iconst (pc := 57) (v := (0)) h.1 dX4_copyFrom_57 (by decide) ?_
  refine G_aload_n (pc := 58) h.1 dX4_copyFrom_58 rfl 0 rfl ?_
  refine G_get (pc := 59) (v := .ref (y.2.1 (sI q0 5))) h.1 fl_X4_21 (ids_s hq0 1 (by decide)) (eS1 hq0 _) rfl dX4_copyFrom_59 ?_
  refine G_iconst (pc := 62) (v := (0)) h.1 dX4_copyFrom_62 (by decide) ?_
  refine G_bipush (pc := 63) (v := (8)) h.1 dX4_copyFrom_63 (by decide) ?_
  refine G_copy (pc := 65) h.1 h.2.2.1 mc_X4_32 (ids_s hq1 5 (by decide)) (ids_s hq0 5 (by decide)) (eS5 hq1 _) (fun m => eS5 hq0 m) (by decide) (by decide) dX4_copyFrom_65 (Nat.le_of_ble_eq_true rfl) (Nat.le_of_ble_eq_true rfl) (fun M5 => ?_)
  exact G_vret (pc := 68) h dX4_copyFrom_68
end
