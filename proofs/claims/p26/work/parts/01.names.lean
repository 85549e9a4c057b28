/-- a private method of a class that the tables say can be made, by its rows of tables_1 -/
def lw_okq (q : MethodName × Nat) : Prop := (q.1.cls ≠ "java/lang/invoke/MethodHandle" ∧ q.1.cls ≠ "java/lang/invoke/VarHandle") ∧ Cond.instantiable q.1.cls q.2 ∈ tables_1 ∧ Cond.privateMethod q.1 ∈ tables_1 ∧ Cond.instanceMethod q.1 ∈ tables_1
theorem lw_p0 : lw_okq (⟨"BoilerBook$History", "dropOldest", "()V"⟩, 2) := ⟨⟨by decide +kernel, by decide +kernel⟩, List.mem_of_getElem? (i := 170) (by decide +kernel), List.mem_of_getElem? (i := 356) (by decide +kernel), List.mem_of_getElem? (i := 357) (by decide +kernel)⟩
theorem lw_p1 : lw_okq (⟨"BoilerBook", "countDoomed", "()I"⟩, 9) := ⟨⟨by decide +kernel, by decide +kernel⟩, List.mem_of_getElem? (i := 14) (by decide +kernel), List.mem_of_getElem? (i := 389) (by decide +kernel), List.mem_of_getElem? (i := 390) (by decide +kernel)⟩
theorem lw_p2 : lw_okq (⟨"BoilerBook", "forecastToEnd", "()V"⟩, 9) := ⟨⟨by decide +kernel, by decide +kernel⟩, List.mem_of_getElem? (i := 14) (by decide +kernel), List.mem_of_getElem? (i := 393) (by decide +kernel), List.mem_of_getElem? (i := 394) (by decide +kernel)⟩
theorem lw_p3 : lw_okq (⟨"BoilerBook$Course", "addRow", "(LBoilerBook$State;III)V"⟩, 17) := ⟨⟨by decide +kernel, by decide +kernel⟩, List.mem_of_getElem? (i := 221) (by decide +kernel), List.mem_of_getElem? (i := 414) (by decide +kernel), List.mem_of_getElem? (i := 415) (by decide +kernel)⟩
theorem lw_p4 : lw_okq (⟨"BoilerBook$Course", "passTick", "()V"⟩, 17) := ⟨⟨by decide +kernel, by decide +kernel⟩, List.mem_of_getElem? (i := 221) (by decide +kernel), List.mem_of_getElem? (i := 427) (by decide +kernel), List.mem_of_getElem? (i := 428) (by decide +kernel)⟩
theorem lw_p5 : lw_okq (⟨"BoilerBook$Course", "drawFor", "(I)V"⟩, 17) := ⟨⟨by decide +kernel, by decide +kernel⟩, List.mem_of_getElem? (i := 221) (by decide +kernel), List.mem_of_getElem? (i := 434) (by decide +kernel), List.mem_of_getElem? (i := 435) (by decide +kernel)⟩
theorem lw_p6 : lw_okq (⟨"BoilerBook", "errorOfBooking", "(III)I"⟩, 9) := ⟨⟨by decide +kernel, by decide +kernel⟩, List.mem_of_getElem? (i := 14) (by decide +kernel), List.mem_of_getElem? (i := 458) (by decide +kernel), List.mem_of_getElem? (i := 459) (by decide +kernel)⟩
theorem lw_p7 : lw_okq (⟨"BoilerBook$Judge", "forecastWithout", "(LBoilerBook$State;I)V"⟩, 4) := ⟨⟨by decide +kernel, by decide +kernel⟩, List.mem_of_getElem? (i := 293) (by decide +kernel), List.mem_of_getElem? (i := 474) (by decide +kernel), List.mem_of_getElem? (i := 475) (by decide +kernel)⟩
theorem lw_p8 : lw_okq (⟨"BoilerBook$Judge", "reasonNow", "(LBoilerBook$State;IIII)I"⟩, 4) := ⟨⟨by decide +kernel, by decide +kernel⟩, List.mem_of_getElem? (i := 293) (by decide +kernel), List.mem_of_getElem? (i := 480) (by decide +kernel), List.mem_of_getElem? (i := 481) (by decide +kernel)⟩
theorem lw_p9 : lw_okq (⟨"BoilerBook$Judge", "reasonByOthers", "(I)I"⟩, 4) := ⟨⟨by decide +kernel, by decide +kernel⟩, List.mem_of_getElem? (i := 293) (by decide +kernel), List.mem_of_getElem? (i := 502) (by decide +kernel), List.mem_of_getElem? (i := 503) (by decide +kernel)⟩
theorem lw_p10 : lw_okq (⟨"BoilerBook$Judge", "wasDoomed", "(I)Z"⟩, 4) := ⟨⟨by decide +kernel, by decide +kernel⟩, List.mem_of_getElem? (i := 293) (by decide +kernel), List.mem_of_getElem? (i := 506) (by decide +kernel), List.mem_of_getElem? (i := 507) (by decide +kernel)⟩
theorem lw_p11 : lw_okq (⟨"BoilerBook", "tryWishes", "()I"⟩, 9) := ⟨⟨by decide +kernel, by decide +kernel⟩, List.mem_of_getElem? (i := 14) (by decide +kernel), List.mem_of_getElem? (i := 523) (by decide +kernel), List.mem_of_getElem? (i := 524) (by decide +kernel)⟩
theorem lw_p12 : lw_okq (⟨"BoilerBook", "firstToRepair", "()I"⟩, 9) := ⟨⟨by decide +kernel, by decide +kernel⟩, List.mem_of_getElem? (i := 14) (by decide +kernel), List.mem_of_getElem? (i := 550) (by decide +kernel), List.mem_of_getElem? (i := 551) (by decide +kernel)⟩
theorem lw_p13 : lw_okq (⟨"BoilerBook", "wasRepaired", "(I)Z"⟩, 9) := ⟨⟨by decide +kernel, by decide +kernel⟩, List.mem_of_getElem? (i := 14) (by decide +kernel), List.mem_of_getElem? (i := 558) (by decide +kernel), List.mem_of_getElem? (i := 559) (by decide +kernel)⟩
theorem lw_p14 : lw_okq (⟨"BoilerBook", "moveLaterOrCancel", "(I)Z"⟩, 9) := ⟨⟨by decide +kernel, by decide +kernel⟩, List.mem_of_getElem? (i := 14) (by decide +kernel), List.mem_of_getElem? (i := 562) (by decide +kernel), List.mem_of_getElem? (i := 563) (by decide +kernel)⟩
theorem lw_p15 : lw_okq (⟨"BoilerBook", "takeOver", "(LBoilerBook$Course;)I"⟩, 9) := ⟨⟨by decide +kernel, by decide +kernel⟩, List.mem_of_getElem? (i := 14) (by decide +kernel), List.mem_of_getElem? (i := 586) (by decide +kernel), List.mem_of_getElem? (i := 587) (by decide +kernel)⟩
def lw_privs_1 : List (MethodName × Nat) := [(⟨"BoilerBook$History", "dropOldest", "()V"⟩, 2), (⟨"BoilerBook", "countDoomed", "()I"⟩, 9), (⟨"BoilerBook", "forecastToEnd", "()V"⟩, 9), (⟨"BoilerBook$Course", "addRow", "(LBoilerBook$State;III)V"⟩, 17), (⟨"BoilerBook$Course", "passTick", "()V"⟩, 17), (⟨"BoilerBook$Course", "drawFor", "(I)V"⟩, 17), (⟨"BoilerBook", "errorOfBooking", "(III)I"⟩, 9), (⟨"BoilerBook$Judge", "forecastWithout", "(LBoilerBook$State;I)V"⟩, 4), (⟨"BoilerBook$Judge", "reasonNow", "(LBoilerBook$State;IIII)I"⟩, 4), (⟨"BoilerBook$Judge", "reasonByOthers", "(I)I"⟩, 4), (⟨"BoilerBook$Judge", "wasDoomed", "(I)Z"⟩, 4), (⟨"BoilerBook", "tryWishes", "()I"⟩, 9), (⟨"BoilerBook", "firstToRepair", "()I"⟩, 9), (⟨"BoilerBook", "wasRepaired", "(I)Z"⟩, 9), (⟨"BoilerBook", "moveLaterOrCancel", "(I)Z"⟩, 9), (⟨"BoilerBook", "takeOver", "(LBoilerBook$Course;)I"⟩, 9)]
theorem lw_r1 : ∀ q ∈ lw_privs_1, lw_okq q := List.forall_mem_cons.mpr ⟨lw_p0, List.forall_mem_cons.mpr ⟨lw_p1, List.forall_mem_cons.mpr ⟨lw_p2, List.forall_mem_cons.mpr ⟨lw_p3, List.forall_mem_cons.mpr ⟨lw_p4, List.forall_mem_cons.mpr ⟨lw_p5, List.forall_mem_cons.mpr ⟨lw_p6, List.forall_mem_cons.mpr ⟨lw_p7, List.forall_mem_cons.mpr ⟨lw_p8, List.forall_mem_cons.mpr ⟨lw_p9, List.forall_mem_cons.mpr ⟨lw_p10, List.forall_mem_cons.mpr ⟨lw_p11, List.forall_mem_cons.mpr ⟨lw_p12, List.forall_mem_cons.mpr ⟨lw_p13, List.forall_mem_cons.mpr ⟨lw_p14, List.forall_mem_cons.mpr ⟨lw_p15, fun _ h => absurd h List.not_mem_nil⟩⟩⟩⟩⟩⟩⟩⟩⟩⟩⟩⟩⟩⟩⟩⟩
theorem lw_p16 : lw_okq (⟨"BoilerBook$Text", "readEntry", "(I)Z"⟩, 7) := ⟨⟨by decide +kernel, by decide +kernel⟩, List.mem_of_getElem? (i := 187) (by decide +kernel), List.mem_of_getElem? (i := 615) (by decide +kernel), List.mem_of_getElem? (i := 616) (by decide +kernel)⟩
theorem lw_p17 : lw_okq (⟨"BoilerBook$Text", "isDigit", "()Z"⟩, 7) := ⟨⟨by decide +kernel, by decide +kernel⟩, List.mem_of_getElem? (i := 187) (by decide +kernel), List.mem_of_getElem? (i := 619) (by decide +kernel), List.mem_of_getElem? (i := 620) (by decide +kernel)⟩
theorem lw_p18 : lw_okq (⟨"BoilerBook$Text", "current", "()C"⟩, 7) := ⟨⟨by decide +kernel, by decide +kernel⟩, List.mem_of_getElem? (i := 187) (by decide +kernel), List.mem_of_getElem? (i := 623) (by decide +kernel), List.mem_of_getElem? (i := 624) (by decide +kernel)⟩
theorem lw_p19 : lw_okq (⟨"BoilerBook$Text", "takeDigit", "()I"⟩, 7) := ⟨⟨by decide +kernel, by decide +kernel⟩, List.mem_of_getElem? (i := 187) (by decide +kernel), List.mem_of_getElem? (i := 627) (by decide +kernel), List.mem_of_getElem? (i := 628) (by decide +kernel)⟩
theorem lw_p20 : lw_okq (⟨"BoilerBook$Text", "skip", "(C)Z"⟩, 7) := ⟨⟨by decide +kernel, by decide +kernel⟩, List.mem_of_getElem? (i := 187) (by decide +kernel), List.mem_of_getElem? (i := 631) (by decide +kernel), List.mem_of_getElem? (i := 632) (by decide +kernel)⟩
theorem lw_p21 : lw_okq (⟨"BoilerBook$Text", "takeStart", "()I"⟩, 7) := ⟨⟨by decide +kernel, by decide +kernel⟩, List.mem_of_getElem? (i := 187) (by decide +kernel), List.mem_of_getElem? (i := 635) (by decide +kernel), List.mem_of_getElem? (i := 636) (by decide +kernel)⟩
theorem lw_p22 : lw_okq (⟨"BoilerBook", "stateInTheEnd", "(I)I"⟩, 9) := ⟨⟨by decide +kernel, by decide +kernel⟩, List.mem_of_getElem? (i := 14) (by decide +kernel), List.mem_of_getElem? (i := 686) (by decide +kernel), List.mem_of_getElem? (i := 687) (by decide +kernel)⟩
theorem lw_p23 : lw_okq (⟨"BoilerBook", "tickOfSpoiling", "(I)I"⟩, 9) := ⟨⟨by decide +kernel, by decide +kernel⟩, List.mem_of_getElem? (i := 14) (by decide +kernel), List.mem_of_getElem? (i := 691) (by decide +kernel), List.mem_of_getElem? (i := 692) (by decide +kernel)⟩
theorem lw_p24 : lw_okq (⟨"BoilerBook", "leastSpare", "(I)I"⟩, 9) := ⟨⟨by decide +kernel, by decide +kernel⟩, List.mem_of_getElem? (i := 14) (by decide +kernel), List.mem_of_getElem? (i := 695) (by decide +kernel), List.mem_of_getElem? (i := 696) (by decide +kernel)⟩
theorem lw_p25 : lw_okq (⟨"BoilerBookModel", "record", "()V"⟩, 24) := ⟨⟨by decide +kernel, by decide +kernel⟩, List.mem_of_getElem? (i := 727) (by decide +kernel), List.mem_of_getElem? (i := 813) (by decide +kernel), List.mem_of_getElem? (i := 814) (by decide +kernel)⟩
theorem lw_p26 : lw_okq (⟨"BoilerBookModel", "doomed", "()I"⟩, 24) := ⟨⟨by decide +kernel, by decide +kernel⟩, List.mem_of_getElem? (i := 727) (by decide +kernel), List.mem_of_getElem? (i := 821) (by decide +kernel), List.mem_of_getElem? (i := 822) (by decide +kernel)⟩
theorem lw_p27 : lw_okq (⟨"BoilerBookModel", "forecast", "()V"⟩, 24) := ⟨⟨by decide +kernel, by decide +kernel⟩, List.mem_of_getElem? (i := 727) (by decide +kernel), List.mem_of_getElem? (i := 825) (by decide +kernel), List.mem_of_getElem? (i := 826) (by decide +kernel)⟩
theorem lw_p28 : lw_okq (⟨"BoilerBookModel", "begins", "()V"⟩, 24) := ⟨⟨by decide +kernel, by decide +kernel⟩, List.mem_of_getElem? (i := 727) (by decide +kernel), List.mem_of_getElem? (i := 829) (by decide +kernel), List.mem_of_getElem? (i := 830) (by decide +kernel)⟩
theorem lw_p29 : lw_okq (⟨"BoilerBookModel", "of", "(II)I"⟩, 24) := ⟨⟨by decide +kernel, by decide +kernel⟩, List.mem_of_getElem? (i := 727) (by decide +kernel), List.mem_of_getElem? (i := 833) (by decide +kernel), List.mem_of_getElem? (i := 834) (by decide +kernel)⟩
theorem lw_p30 : lw_okq (⟨"BoilerBookModel", "foresees", "(I)V"⟩, 24) := ⟨⟨by decide +kernel, by decide +kernel⟩, List.mem_of_getElem? (i := 727) (by decide +kernel), List.mem_of_getElem? (i := 838) (by decide +kernel), List.mem_of_getElem? (i := 839) (by decide +kernel)⟩
theorem lw_p31 : lw_okq (⟨"BoilerBookModel", "asks", "(IIII)V"⟩, 24) := ⟨⟨by decide +kernel, by decide +kernel⟩, List.mem_of_getElem? (i := 727) (by decide +kernel), List.mem_of_getElem? (i := 842) (by decide +kernel), List.mem_of_getElem? (i := 843) (by decide +kernel)⟩
def lw_privs_2 : List (MethodName × Nat) := [(⟨"BoilerBook$Text", "readEntry", "(I)Z"⟩, 7), (⟨"BoilerBook$Text", "isDigit", "()Z"⟩, 7), (⟨"BoilerBook$Text", "current", "()C"⟩, 7), (⟨"BoilerBook$Text", "takeDigit", "()I"⟩, 7), (⟨"BoilerBook$Text", "skip", "(C)Z"⟩, 7), (⟨"BoilerBook$Text", "takeStart", "()I"⟩, 7), (⟨"BoilerBook", "stateInTheEnd", "(I)I"⟩, 9), (⟨"BoilerBook", "tickOfSpoiling", "(I)I"⟩, 9), (⟨"BoilerBook", "leastSpare", "(I)I"⟩, 9), (⟨"BoilerBookModel", "record", "()V"⟩, 24), (⟨"BoilerBookModel", "doomed", "()I"⟩, 24), (⟨"BoilerBookModel", "forecast", "()V"⟩, 24), (⟨"BoilerBookModel", "begins", "()V"⟩, 24), (⟨"BoilerBookModel", "of", "(II)I"⟩, 24), (⟨"BoilerBookModel", "foresees", "(I)V"⟩, 24), (⟨"BoilerBookModel", "asks", "(IIII)V"⟩, 24)]
theorem lw_r2 : ∀ q ∈ lw_privs_2, lw_okq q := List.forall_mem_cons.mpr ⟨lw_p16, List.forall_mem_cons.mpr ⟨lw_p17, List.forall_mem_cons.mpr ⟨lw_p18, List.forall_mem_cons.mpr ⟨lw_p19, List.forall_mem_cons.mpr ⟨lw_p20, List.forall_mem_cons.mpr ⟨lw_p21, List.forall_mem_cons.mpr ⟨lw_p22, List.forall_mem_cons.mpr ⟨lw_p23, List.forall_mem_cons.mpr ⟨lw_p24, List.forall_mem_cons.mpr ⟨lw_p25, List.forall_mem_cons.mpr ⟨lw_p26, List.forall_mem_cons.mpr ⟨lw_p27, List.forall_mem_cons.mpr ⟨lw_p28, List.forall_mem_cons.mpr ⟨lw_p29, List.forall_mem_cons.mpr ⟨lw_p30, List.forall_mem_cons.mpr ⟨lw_p31, fun _ h => absurd h List.not_mem_nil⟩⟩⟩⟩⟩⟩⟩⟩⟩⟩⟩⟩⟩⟩⟩⟩
theorem lw_p32 : lw_okq (⟨"BoilerBookModel", "ofRecipe", "(II)I"⟩, 24) := ⟨⟨by decide +kernel, by decide +kernel⟩, List.mem_of_getElem? (i := 727) (by decide +kernel), List.mem_of_getElem? (i := 846) (by decide +kernel), List.mem_of_getElem? (i := 847) (by decide +kernel)⟩
theorem lw_p33 : lw_okq (⟨"BoilerBookModel", "wrong", "(III)I"⟩, 24) := ⟨⟨by decide +kernel, by decide +kernel⟩, List.mem_of_getElem? (i := 727) (by decide +kernel), List.mem_of_getElem? (i := 862) (by decide +kernel), List.mem_of_getElem? (i := 863) (by decide +kernel)⟩
theorem lw_p34 : lw_okq (⟨"BoilerBookModel", "noRecipe", "(I)Z"⟩, 24) := ⟨⟨by decide +kernel, by decide +kernel⟩, List.mem_of_getElem? (i := 727) (by decide +kernel), List.mem_of_getElem? (i := 869) (by decide +kernel), List.mem_of_getElem? (i := 870) (by decide +kernel)⟩
theorem lw_p35 : lw_okq (⟨"BoilerBookModel", "isStart", "(I)Z"⟩, 24) := ⟨⟨by decide +kernel, by decide +kernel⟩, List.mem_of_getElem? (i := 727) (by decide +kernel), List.mem_of_getElem? (i := 873) (by decide +kernel), List.mem_of_getElem? (i := 874) (by decide +kernel)⟩
theorem lw_p36 : lw_okq (⟨"BoilerBookModel", "bases", "(I)V"⟩, 24) := ⟨⟨by decide +kernel, by decide +kernel⟩, List.mem_of_getElem? (i := 727) (by decide +kernel), List.mem_of_getElem? (i := 877) (by decide +kernel), List.mem_of_getElem? (i := 878) (by decide +kernel)⟩
theorem lw_p37 : lw_okq (⟨"BoilerBookModel", "reason", "(IIII)I"⟩, 24) := ⟨⟨by decide +kernel, by decide +kernel⟩, List.mem_of_getElem? (i := 727) (by decide +kernel), List.mem_of_getElem? (i := 881) (by decide +kernel), List.mem_of_getElem? (i := 882) (by decide +kernel)⟩
theorem lw_p38 : lw_okq (⟨"BoilerBookModel", "last", "(II)I"⟩, 24) := ⟨⟨by decide +kernel, by decide +kernel⟩, List.mem_of_getElem? (i := 727) (by decide +kernel), List.mem_of_getElem? (i := 885) (by decide +kernel), List.mem_of_getElem? (i := 886) (by decide +kernel)⟩
theorem lw_p39 : lw_okq (⟨"BoilerBookModel", "keeper", "(IIII)I"⟩, 24) := ⟨⟨by decide +kernel, by decide +kernel⟩, List.mem_of_getElem? (i := 727) (by decide +kernel), List.mem_of_getElem? (i := 889) (by decide +kernel), List.mem_of_getElem? (i := 890) (by decide +kernel)⟩
theorem lw_p40 : lw_okq (⟨"BoilerBookModel", "adds", "(III)I"⟩, 24) := ⟨⟨by decide +kernel, by decide +kernel⟩, List.mem_of_getElem? (i := 727) (by decide +kernel), List.mem_of_getElem? (i := 893) (by decide +kernel), List.mem_of_getElem? (i := 894) (by decide +kernel)⟩
theorem lw_p41 : lw_okq (⟨"BoilerBookModel", "puts", "(III)V"⟩, 24) := ⟨⟨by decide +kernel, by decide +kernel⟩, List.mem_of_getElem? (i := 727) (by decide +kernel), List.mem_of_getElem? (i := 897) (by decide +kernel), List.mem_of_getElem? (i := 898) (by decide +kernel)⟩
theorem lw_p42 : lw_okq (⟨"BoilerBookModel", "noBooking", "(I)Z"⟩, 24) := ⟨⟨by decide +kernel, by decide +kernel⟩, List.mem_of_getElem? (i := 727) (by decide +kernel), List.mem_of_getElem? (i := 905) (by decide +kernel), List.mem_of_getElem? (i := 906) (by decide +kernel)⟩
theorem lw_p43 : lw_okq (⟨"BoilerBookModel", "isOpen", "(I)Z"⟩, 24) := ⟨⟨by decide +kernel, by decide +kernel⟩, List.mem_of_getElem? (i := 727) (by decide +kernel), List.mem_of_getElem? (i := 909) (by decide +kernel), List.mem_of_getElem? (i := 910) (by decide +kernel)⟩
theorem lw_p44 : lw_okq (⟨"BoilerBookModel", "ofWish", "(II)I"⟩, 24) := ⟨⟨by decide +kernel, by decide +kernel⟩, List.mem_of_getElem? (i := 727) (by decide +kernel), List.mem_of_getElem? (i := 913) (by decide +kernel), List.mem_of_getElem? (i := 914) (by decide +kernel)⟩
theorem lw_p45 : lw_okq (⟨"BoilerBookModel", "grants", "(III)I"⟩, 24) := ⟨⟨by decide +kernel, by decide +kernel⟩, List.mem_of_getElem? (i := 727) (by decide +kernel), List.mem_of_getElem? (i := 917) (by decide +kernel), List.mem_of_getElem? (i := 918) (by decide +kernel)⟩
theorem lw_p46 : lw_okq (⟨"BoilerBookModel", "first", "(IIIII)I"⟩, 24) := ⟨⟨by decide +kernel, by decide +kernel⟩, List.mem_of_getElem? (i := 727) (by decide +kernel), List.mem_of_getElem? (i := 921) (by decide +kernel), List.mem_of_getElem? (i := 922) (by decide +kernel)⟩
theorem lw_p47 : lw_okq (⟨"BoilerBookModel", "leaves", "(I)V"⟩, 24) := ⟨⟨by decide +kernel, by decide +kernel⟩, List.mem_of_getElem? (i := 727) (by decide +kernel), List.mem_of_getElem? (i := 925) (by decide +kernel), List.mem_of_getElem? (i := 926) (by decide +kernel)⟩
def lw_privs_3 : List (MethodName × Nat) := [(⟨"BoilerBookModel", "ofRecipe", "(II)I"⟩, 24), (⟨"BoilerBookModel", "wrong", "(III)I"⟩, 24), (⟨"BoilerBookModel", "noRecipe", "(I)Z"⟩, 24), (⟨"BoilerBookModel", "isStart", "(I)Z"⟩, 24), (⟨"BoilerBookModel", "bases", "(I)V"⟩, 24), (⟨"BoilerBookModel", "reason", "(IIII)I"⟩, 24), (⟨"BoilerBookModel", "last", "(II)I"⟩, 24), (⟨"BoilerBookModel", "keeper", "(IIII)I"⟩, 24), (⟨"BoilerBookModel", "adds", "(III)I"⟩, 24), (⟨"BoilerBookModel", "puts", "(III)V"⟩, 24), (⟨"BoilerBookModel", "noBooking", "(I)Z"⟩, 24), (⟨"BoilerBookModel", "isOpen", "(I)Z"⟩, 24), (⟨"BoilerBookModel", "ofWish", "(II)I"⟩, 24), (⟨"BoilerBookModel", "grants", "(III)I"⟩, 24), (⟨"BoilerBookModel", "first", "(IIIII)I"⟩, 24), (⟨"BoilerBookModel", "leaves", "(I)V"⟩, 24)]
theorem lw_r3 : ∀ q ∈ lw_privs_3, lw_okq q := List.forall_mem_cons.mpr ⟨lw_p32, List.forall_mem_cons.mpr ⟨lw_p33, List.forall_mem_cons.mpr ⟨lw_p34, List.forall_mem_cons.mpr ⟨lw_p35, List.forall_mem_cons.mpr ⟨lw_p36, List.forall_mem_cons.mpr ⟨lw_p37, List.forall_mem_cons.mpr ⟨lw_p38, List.forall_mem_cons.mpr ⟨lw_p39, List.forall_mem_cons.mpr ⟨lw_p40, List.forall_mem_cons.mpr ⟨lw_p41, List.forall_mem_cons.mpr ⟨lw_p42, List.forall_mem_cons.mpr ⟨lw_p43, List.forall_mem_cons.mpr ⟨lw_p44, List.forall_mem_cons.mpr ⟨lw_p45, List.forall_mem_cons.mpr ⟨lw_p46, List.forall_mem_cons.mpr ⟨lw_p47, fun _ h => absurd h List.not_mem_nil⟩⟩⟩⟩⟩⟩⟩⟩⟩⟩⟩⟩⟩⟩⟩⟩
theorem lw_p48 : lw_okq (⟨"BoilerBookModel", "sick", "()I"⟩, 24) := ⟨⟨by decide +kernel, by decide +kernel⟩, List.mem_of_getElem? (i := 727) (by decide +kernel), List.mem_of_getElem? (i := 937) (by decide +kernel), List.mem_of_getElem? (i := 938) (by decide +kernel)⟩
theorem lw_p49 : lw_okq (⟨"BoilerBookModel", "goes", "()V"⟩, 24) := ⟨⟨by decide +kernel, by decide +kernel⟩, List.mem_of_getElem? (i := 727) (by decide +kernel), List.mem_of_getElem? (i := 945) (by decide +kernel), List.mem_of_getElem? (i := 946) (by decide +kernel)⟩
theorem lw_p50 : lw_okq (⟨"BoilerBookModel", "comes", "()V"⟩, 24) := ⟨⟨by decide +kernel, by decide +kernel⟩, List.mem_of_getElem? (i := 727) (by decide +kernel), List.mem_of_getElem? (i := 949) (by decide +kernel), List.mem_of_getElem? (i := 950) (by decide +kernel)⟩
theorem lw_p51 : lw_okq (⟨"BoilerBookModel", "aTick", "()I"⟩, 24) := ⟨⟨by decide +kernel, by decide +kernel⟩, List.mem_of_getElem? (i := 727) (by decide +kernel), List.mem_of_getElem? (i := 961) (by decide +kernel), List.mem_of_getElem? (i := 962) (by decide +kernel)⟩
theorem lw_p52 : lw_okq (⟨"BoilerBookModel", "draws", "(I)Z"⟩, 24) := ⟨⟨by decide +kernel, by decide +kernel⟩, List.mem_of_getElem? (i := 727) (by decide +kernel), List.mem_of_getElem? (i := 965) (by decide +kernel), List.mem_of_getElem? (i := 966) (by decide +kernel)⟩
theorem lw_p53 : lw_okq (⟨"BoilerBookModel", "bookingsOfText", "()I"⟩, 24) := ⟨⟨by decide +kernel, by decide +kernel⟩, List.mem_of_getElem? (i := 727) (by decide +kernel), List.mem_of_getElem? (i := 981) (by decide +kernel), List.mem_of_getElem? (i := 982) (by decide +kernel)⟩
theorem lw_p54 : lw_okq (⟨"BoilerBookModel", "takesBooking", "()Z"⟩, 24) := ⟨⟨by decide +kernel, by decide +kernel⟩, List.mem_of_getElem? (i := 727) (by decide +kernel), List.mem_of_getElem? (i := 985) (by decide +kernel), List.mem_of_getElem? (i := 986) (by decide +kernel)⟩
theorem lw_p55 : lw_okq (⟨"BoilerBookModel", "takesNumber", "(I)Z"⟩, 24) := ⟨⟨by decide +kernel, by decide +kernel⟩, List.mem_of_getElem? (i := 727) (by decide +kernel), List.mem_of_getElem? (i := 989) (by decide +kernel), List.mem_of_getElem? (i := 990) (by decide +kernel)⟩
theorem lw_p56 : lw_okq (⟨"BoilerBookModel", "isDigit", "()Z"⟩, 24) := ⟨⟨by decide +kernel, by decide +kernel⟩, List.mem_of_getElem? (i := 727) (by decide +kernel), List.mem_of_getElem? (i := 993) (by decide +kernel), List.mem_of_getElem? (i := 994) (by decide +kernel)⟩
theorem lw_p57 : lw_okq (⟨"BoilerBookModel", "takes", "(I)Z"⟩, 24) := ⟨⟨by decide +kernel, by decide +kernel⟩, List.mem_of_getElem? (i := 727) (by decide +kernel), List.mem_of_getElem? (i := 997) (by decide +kernel), List.mem_of_getElem? (i := 998) (by decide +kernel)⟩
theorem lw_p58 : lw_okq (⟨"BoilerBookModel", "trades", "()V"⟩, 24) := ⟨⟨by decide +kernel, by decide +kernel⟩, List.mem_of_getElem? (i := 727) (by decide +kernel), List.mem_of_getElem? (i := 1001) (by decide +kernel), List.mem_of_getElem? (i := 1002) (by decide +kernel)⟩
theorem lw_p59 : lw_okq (⟨"BoilerBookModel", "bookings", "(IIII)I"⟩, 24) := ⟨⟨by decide +kernel, by decide +kernel⟩, List.mem_of_getElem? (i := 727) (by decide +kernel), List.mem_of_getElem? (i := 1021) (by decide +kernel), List.mem_of_getElem? (i := 1022) (by decide +kernel)⟩
def lw_privs_4 : List (MethodName × Nat) := [(⟨"BoilerBookModel", "sick", "()I"⟩, 24), (⟨"BoilerBookModel", "goes", "()V"⟩, 24), (⟨"BoilerBookModel", "comes", "()V"⟩, 24), (⟨"BoilerBookModel", "aTick", "()I"⟩, 24), (⟨"BoilerBookModel", "draws", "(I)Z"⟩, 24), (⟨"BoilerBookModel", "bookingsOfText", "()I"⟩, 24), (⟨"BoilerBookModel", "takesBooking", "()Z"⟩, 24), (⟨"BoilerBookModel", "takesNumber", "(I)Z"⟩, 24), (⟨"BoilerBookModel", "isDigit", "()Z"⟩, 24), (⟨"BoilerBookModel", "takes", "(I)Z"⟩, 24), (⟨"BoilerBookModel", "trades", "()V"⟩, 24), (⟨"BoilerBookModel", "bookings", "(IIII)I"⟩, 24)]
theorem lw_r4 : ∀ q ∈ lw_privs_4, lw_okq q := List.forall_mem_cons.mpr ⟨lw_p48, List.forall_mem_cons.mpr ⟨lw_p49, List.forall_mem_cons.mpr ⟨lw_p50, List.forall_mem_cons.mpr ⟨lw_p51, List.forall_mem_cons.mpr ⟨lw_p52, List.forall_mem_cons.mpr ⟨lw_p53, List.forall_mem_cons.mpr ⟨lw_p54, List.forall_mem_cons.mpr ⟨lw_p55, List.forall_mem_cons.mpr ⟨lw_p56, List.forall_mem_cons.mpr ⟨lw_p57, List.forall_mem_cons.mpr ⟨lw_p58, List.forall_mem_cons.mpr ⟨lw_p59, fun _ h => absurd h List.not_mem_nil⟩⟩⟩⟩⟩⟩⟩⟩⟩⟩⟩⟩
def lw_privs : List (MethodName × Nat) := lw_privs_1 ++ (lw_privs_2 ++ (lw_privs_3 ++ (lw_privs_4)))
def lw_tbl : List Cond := k2_sels lw_privs ++ tables_1
theorem lw_privs_ok : ∀ q ∈ lw_privs, lw_okq q := by
  show ∀ q ∈ lw_privs_1 ++ (lw_privs_2 ++ (lw_privs_3 ++ (lw_privs_4))), lw_okq q
  exact List.forall_mem_append.mpr ⟨lw_r1, List.forall_mem_append.mpr ⟨lw_r2, List.forall_mem_append.mpr ⟨lw_r3, lw_r4⟩⟩⟩
def RX0 : String := "BoilerBook$Bookings"
def TX0 : u_T := fun k => match k with
  | 0 => ("BoilerBook$Bookings", "size", "I", false)
  | 1 => ("BoilerBook$Bookings", "robot", "[I", true)
  | 2 => ("BoilerBook$Bookings", "recipe", "[I", true)
  | 3 => ("BoilerBook$Bookings", "start", "[I", true)
  | 4 => ("BoilerBook$Bookings", "state", "[I", true)
  | _ => ("BoilerBook$Bookings", "drawn", "[I", true)
def tyX0 : Nat → FieldType := fun k => match k with
  | 0 => .int
  | 1 => .array .int
  | 2 => .array .int
  | 3 => .array .int
  | 4 => .array .int
  | _ => .array .int
theorem nmX0 : ∀ a, a < 6 → ∀ b, b < 6 → a ≠ b → (TX0 a).2.1 ≠ (TX0 b).2.1 := by decide +kernel
theorem tyX0_ok : ∀ k, k < 6 → parseFieldDescriptor (TX0 k).2.2.1 = some (tyX0 k) := by decide +kernel
abbrev cX0_init : ByteArray := prog_2_method_1_code
def yX0_init : MethodName := ⟨RX0, "<init>", "()V"⟩
abbrev cX0_has : ByteArray := prog_2_method_2_code
def yX0_has : MethodName := ⟨RX0, "has", "(I)Z"⟩
abbrev cX0_append : ByteArray := prog_2_method_3_code
def yX0_append : MethodName := ⟨RX0, "append", "(III)I"⟩
abbrev cX0_stateOf : ByteArray := prog_2_method_4_code
def yX0_stateOf : MethodName := ⟨RX0, "stateOf", "(I)I"⟩
abbrev cX0_isOpen : ByteArray := prog_2_method_5_code
def yX0_isOpen : MethodName := ⟨RX0, "isOpen", "(I)Z"⟩
abbrev cX0_keepsBusy : ByteArray := prog_2_method_6_code
def yX0_keepsBusy : MethodName := ⟨RX0, "keepsBusy", "(II)Z"⟩
abbrev cX0_inState : ByteArray := prog_2_method_7_code
def yX0_inState : MethodName := ⟨RX0, "inState", "(I)I"⟩
abbrev cX0_ofRobot : ByteArray := prog_2_method_8_code
def yX0_ofRobot : MethodName := ⟨RX0, "ofRobot", "(II)I"⟩
abbrev cX0_doneOfRecipe : ByteArray := prog_2_method_9_code
def yX0_doneOfRecipe : MethodName := ⟨RX0, "doneOfRecipe", "(I)I"⟩
abbrev cX0_copyFrom : ByteArray := prog_2_method_10_code
def yX0_copyFrom : MethodName := ⟨RX0, "copyFrom", "(LBoilerBook$Bookings;)V"⟩
def RX1 : String := "BoilerBook$Course"
def TX1 : u_T := fun k => match k with
  | 0 => ("BoilerBook$Course", "tick", "I", false)
  | 1 => ("BoilerBook$Course", "pressure", "I", false)
  | 2 => ("BoilerBook$Course", "most", "I", false)
  | 3 => ("BoilerBook$Course", "heat", "I", false)
  | 4 => ("BoilerBook$Course", "lowest", "I", false)
  | 5 => ("BoilerBook$Course", "taken", "I", false)
  | 6 => ("BoilerBook$Course", "rows", "I", false)
  | 7 => ("BoilerBook$Course", "openRows", "I", false)
  | 8 => ("BoilerBook$Course", "number", "[I", true)
  | 9 => ("BoilerBook$Course", "state", "[I", true)
  | 10 => ("BoilerBook$Course", "drawn", "[I", true)
  | 11 => ("BoilerBook$Course", "spoiledIn", "[I", true)
  | 12 => ("BoilerBook$Course", "leastSpare", "[I", true)
  | 13 => ("BoilerBook$Course", "floor", "[I", true)
  | 14 => ("BoilerBook$Course", "draw", "[I", true)
  | 15 => ("BoilerBook$Course", "first", "[I", true)
  | _ => ("BoilerBook$Course", "last", "[I", true)
def tyX1 : Nat → FieldType := fun k => match k with
  | 0 => .int
  | 1 => .int
  | 2 => .int
  | 3 => .int
  | 4 => .int
  | 5 => .int
  | 6 => .int
  | 7 => .int
  | 8 => .array .int
  | 9 => .array .int
  | 10 => .array .int
  | 11 => .array .int
  | 12 => .array .int
  | 13 => .array .int
  | 14 => .array .int
  | 15 => .array .int
  | _ => .array .int
theorem nmX1 : ∀ a, a < 17 → ∀ b, b < 17 → a ≠ b → (TX1 a).2.1 ≠ (TX1 b).2.1 := by decide +kernel
theorem tyX1_ok : ∀ k, k < 17 → parseFieldDescriptor (TX1 k).2.2.1 = some (tyX1 k) := by decide +kernel
abbrev cX1_init : ByteArray := prog_3_method_1_code
def yX1_init : MethodName := ⟨RX1, "<init>", "()V"⟩
abbrev cX1_begin : ByteArray := prog_3_method_2_code
def yX1_begin : MethodName := ⟨RX1, "begin", "(LBoilerBook$State;)V"⟩
abbrev cX1_beginWith : ByteArray := prog_3_method_3_code
def yX1_beginWith : MethodName := ⟨RX1, "beginWith", "(LBoilerBook$State;III)V"⟩
abbrev cX1_addRow : ByteArray := prog_3_method_4_code
def yX1_addRow : MethodName := ⟨RX1, "addRow", "(LBoilerBook$State;III)V"⟩
abbrev cX1_passTicks : ByteArray := prog_3_method_5_code
def yX1_passTicks : MethodName := ⟨RX1, "passTicks", "(I)V"⟩
abbrev cX1_passToEnd : ByteArray := prog_3_method_6_code
def yX1_passToEnd : MethodName := ⟨RX1, "passToEnd", "()V"⟩
abbrev cX1_passTick : ByteArray := prog_3_method_7_code
def yX1_passTick : MethodName := ⟨RX1, "passTick", "()V"⟩
abbrev cX1_drawFor : ByteArray := prog_3_method_8_code
def yX1_drawFor : MethodName := ⟨RX1, "drawFor", "(I)V"⟩
abbrev cX1_rowOf : ByteArray := prog_3_method_9_code
def yX1_rowOf : MethodName := ⟨RX1, "rowOf", "(I)I"⟩
abbrev cX1_countSpoiled : ByteArray := prog_3_method_10_code
def yX1_countSpoiled : MethodName := ⟨RX1, "countSpoiled", "()I"⟩
def RX2 : String := "BoilerBook$History"
def TX2 : u_T := fun k => match k with
  | 0 => ("BoilerBook$History", "states", "[LBoilerBook$State;", true)
  | _ => ("BoilerBook$History", "size", "I", false)
def tyX2 : Nat → FieldType := fun k => match k with
  | 0 => .array (.object "BoilerBook$State")
  | _ => .int
theorem nmX2 : ∀ a, a < 2 → ∀ b, b < 2 → a ≠ b → (TX2 a).2.1 ≠ (TX2 b).2.1 := by decide +kernel
theorem tyX2_ok : ∀ k, k < 2 → parseFieldDescriptor (TX2 k).2.2.1 = some (tyX2 k) := by decide +kernel
abbrev cX2_init : ByteArray := prog_4_method_1_code
def yX2_init : MethodName := ⟨RX2, "<init>", "()V"⟩
abbrev cX2_push : ByteArray := prog_4_method_2_code
def yX2_push : MethodName := ⟨RX2, "push", "(LBoilerBook$State;)V"⟩
abbrev cX2_dropOldest : ByteArray := prog_4_method_3_code
def yX2_dropOldest : MethodName := ⟨RX2, "dropOldest", "()V"⟩
abbrev cX2_popInto : ByteArray := prog_4_method_4_code
def yX2_popInto : MethodName := ⟨RX2, "popInto", "(LBoilerBook$State;)V"⟩
def RX3 : String := "BoilerBook$Judge"
def TX3 : u_T := fun k => match k with
  | 0 => ("BoilerBook$Judge", "course", "LBoilerBook$Course;", true)
  | 1 => ("BoilerBook$Judge", "doomedWithout", "[Z", true)
  | 2 => ("BoilerBook$Judge", "culprit", "I", false)
  | _ => ("BoilerBook$Judge", "spoiledIn", "I", false)
def tyX3 : Nat → FieldType := fun k => match k with
  | 0 => .object "BoilerBook$Course"
  | 1 => .array .boolean
  | 2 => .int
  | _ => .int
theorem nmX3 : ∀ a, a < 4 → ∀ b, b < 4 → a ≠ b → (TX3 a).2.1 ≠ (TX3 b).2.1 := by decide +kernel
theorem tyX3_ok : ∀ k, k < 4 → parseFieldDescriptor (TX3 k).2.2.1 = some (tyX3 k) := by decide +kernel
abbrev cX3_init : ByteArray := prog_5_method_1_code
def yX3_init : MethodName := ⟨RX3, "<init>", "()V"⟩
abbrev cX3_reasonAgainst : ByteArray := prog_5_method_2_code
def yX3_reasonAgainst : MethodName := ⟨RX3, "reasonAgainst", "(LBoilerBook$State;IIII)I"⟩
abbrev cX3_firstFit : ByteArray := prog_5_method_3_code
def yX3_firstFit : MethodName := ⟨RX3, "firstFit", "(LBoilerBook$State;IIIII)I"⟩
abbrev cX3_forecastWithout : ByteArray := prog_5_method_4_code
def yX3_forecastWithout : MethodName := ⟨RX3, "forecastWithout", "(LBoilerBook$State;I)V"⟩
abbrev cX3_reasonNow : ByteArray := prog_5_method_5_code
def yX3_reasonNow : MethodName := ⟨RX3, "reasonNow", "(LBoilerBook$State;IIII)I"⟩
abbrev cX3_reasonByOthers : ByteArray := prog_5_method_6_code
def yX3_reasonByOthers : MethodName := ⟨RX3, "reasonByOthers", "(I)I"⟩
abbrev cX3_wasDoomed : ByteArray := prog_5_method_7_code
def yX3_wasDoomed : MethodName := ⟨RX3, "wasDoomed", "(I)Z"⟩
def RX4 : String := "BoilerBook$Recipes"
def TX4 : u_T := fun k => match k with
  | 0 => ("BoilerBook$Recipes", "size", "I", false)
  | 1 => ("BoilerBook$Recipes", "floor", "[I", true)
  | 2 => ("BoilerBook$Recipes", "draw", "[I", true)
  | 3 => ("BoilerBook$Recipes", "ticks", "[I", true)
  | _ => ("BoilerBook$Recipes", "cool", "[I", true)
def tyX4 : Nat → FieldType := fun k => match k with
  | 0 => .int
  | 1 => .array .int
  | 2 => .array .int
  | 3 => .array .int
  | _ => .array .int
theorem nmX4 : ∀ a, a < 5 → ∀ b, b < 5 → a ≠ b → (TX4 a).2.1 ≠ (TX4 b).2.1 := by decide +kernel
theorem tyX4_ok : ∀ k, k < 5 → parseFieldDescriptor (TX4 k).2.2.1 = some (tyX4 k) := by decide +kernel
abbrev cX4_init : ByteArray := prog_6_method_1_code
def yX4_init : MethodName := ⟨RX4, "<init>", "()V"⟩
abbrev cX4_has : ByteArray := prog_6_method_2_code
def yX4_has : MethodName := ⟨RX4, "has", "(I)Z"⟩
abbrev cX4_append : ByteArray := prog_6_method_3_code
def yX4_append : MethodName := ⟨RX4, "append", "(IIII)I"⟩
abbrev cX4_lastBusy : ByteArray := prog_6_method_4_code
def yX4_lastBusy : MethodName := ⟨RX4, "lastBusy", "(II)I"⟩
abbrev cX4_copyFrom : ByteArray := prog_6_method_5_code
def yX4_copyFrom : MethodName := ⟨RX4, "copyFrom", "(LBoilerBook$Recipes;)V"⟩
def RX5 : String := "BoilerBook$State"
def TX5 : u_T := fun k => match k with
  | 0 => ("BoilerBook$State", "tick", "I", false)
  | 1 => ("BoilerBook$State", "pressure", "I", false)
  | 2 => ("BoilerBook$State", "most", "I", false)
  | 3 => ("BoilerBook$State", "heat", "I", false)
  | 4 => ("BoilerBook$State", "granted", "I", false)
  | 5 => ("BoilerBook$State", "dropped", "I", false)
  | 6 => ("BoilerBook$State", "drawn", "I", false)
  | 7 => ("BoilerBook$State", "recipes", "LBoilerBook$Recipes;", true)
  | 8 => ("BoilerBook$State", "bookings", "LBoilerBook$Bookings;", true)
  | _ => ("BoilerBook$State", "wishes", "LBoilerBook$Wishes;", true)
def tyX5 : Nat → FieldType := fun k => match k with
  | 0 => .int
  | 1 => .int
  | 2 => .int
  | 3 => .int
  | 4 => .int
  | 5 => .int
  | 6 => .int
  | 7 => .object "BoilerBook$Recipes"
  | 8 => .object "BoilerBook$Bookings"
  | _ => .object "BoilerBook$Wishes"
theorem nmX5 : ∀ a, a < 10 → ∀ b, b < 10 → a ≠ b → (TX5 a).2.1 ≠ (TX5 b).2.1 := by decide +kernel
theorem tyX5_ok : ∀ k, k < 10 → parseFieldDescriptor (TX5 k).2.2.1 = some (tyX5 k) := by decide +kernel
abbrev cX5_init : ByteArray := prog_7_method_1_code
def yX5_init : MethodName := ⟨RX5, "<init>", "()V"⟩
abbrev cX5_canStart : ByteArray := prog_7_method_2_code
def yX5_canStart : MethodName := ⟨RX5, "canStart", "(I)Z"⟩
abbrev cX5_firstMeeting : ByteArray := prog_7_method_3_code
def yX5_firstMeeting : MethodName := ⟨RX5, "firstMeeting", "(IIII)I"⟩
abbrev cX5_isBusyIn : ByteArray := prog_7_method_4_code
def yX5_isBusyIn : MethodName := ⟨RX5, "isBusyIn", "(II)Z"⟩
abbrev cX5_firstFreeTick : ByteArray := prog_7_method_5_code
def yX5_firstFreeTick : MethodName := ⟨RX5, "firstFreeTick", "(I)I"⟩
abbrev cX5_copyFrom : ByteArray := prog_7_method_6_code
def yX5_copyFrom : MethodName := ⟨RX5, "copyFrom", "(LBoilerBook$State;)V"⟩
def RX6 : String := "BoilerBook$Text"
def TX6 : u_T := fun k => match k with
  | 0 => ("BoilerBook$Text", "characters", "[C", true)
  | 1 => ("BoilerBook$Text", "length", "I", false)
  | 2 => ("BoilerBook$Text", "entries", "I", false)
  | 3 => ("BoilerBook$Text", "robot", "[I", true)
  | 4 => ("BoilerBook$Text", "recipe", "[I", true)
  | 5 => ("BoilerBook$Text", "start", "[I", true)
  | _ => ("BoilerBook$Text", "at", "I", false)
def tyX6 : Nat → FieldType := fun k => match k with
  | 0 => .array .char
  | 1 => .int
  | 2 => .int
  | 3 => .array .int
  | 4 => .array .int
  | 5 => .array .int
  | _ => .int
theorem nmX6 : ∀ a, a < 7 → ∀ b, b < 7 → a ≠ b → (TX6 a).2.1 ≠ (TX6 b).2.1 := by decide +kernel
theorem tyX6_ok : ∀ k, k < 7 → parseFieldDescriptor (TX6 k).2.2.1 = some (tyX6 k) := by decide +kernel
abbrev cX6_init : ByteArray := prog_8_method_1_code
def yX6_init : MethodName := ⟨RX6, "<init>", "()V"⟩
abbrev cX6_append : ByteArray := prog_8_method_2_code
def yX6_append : MethodName := ⟨RX6, "append", "(C)I"⟩
abbrev cX6_read : ByteArray := prog_8_method_3_code
def yX6_read : MethodName := ⟨RX6, "read", "()I"⟩
abbrev cX6_readEntry : ByteArray := prog_8_method_4_code
def yX6_readEntry : MethodName := ⟨RX6, "readEntry", "(I)Z"⟩
abbrev cX6_takeStart : ByteArray := prog_8_method_5_code
def yX6_takeStart : MethodName := ⟨RX6, "takeStart", "()I"⟩
abbrev cX6_current : ByteArray := prog_8_method_6_code
def yX6_current : MethodName := ⟨RX6, "current", "()C"⟩
abbrev cX6_isDigit : ByteArray := prog_8_method_7_code
def yX6_isDigit : MethodName := ⟨RX6, "isDigit", "()Z"⟩
abbrev cX6_takeDigit : ByteArray := prog_8_method_8_code
def yX6_takeDigit : MethodName := ⟨RX6, "takeDigit", "()I"⟩
abbrev cX6_skip : ByteArray := prog_8_method_9_code
def yX6_skip : MethodName := ⟨RX6, "skip", "(C)Z"⟩
def RX7 : String := "BoilerBook$Wishes"
def TX7 : u_T := fun k => match k with
  | 0 => ("BoilerBook$Wishes", "size", "I", false)
  | 1 => ("BoilerBook$Wishes", "robot", "[I", true)
  | 2 => ("BoilerBook$Wishes", "recipe", "[I", true)
  | _ => ("BoilerBook$Wishes", "first", "[I", true)
def tyX7 : Nat → FieldType := fun k => match k with
  | 0 => .int
  | 1 => .array .int
  | 2 => .array .int
  | _ => .array .int
theorem nmX7 : ∀ a, a < 4 → ∀ b, b < 4 → a ≠ b → (TX7 a).2.1 ≠ (TX7 b).2.1 := by decide +kernel
theorem tyX7_ok : ∀ k, k < 4 → parseFieldDescriptor (TX7 k).2.2.1 = some (tyX7 k) := by decide +kernel
abbrev cX7_init : ByteArray := prog_9_method_1_code
def yX7_init : MethodName := ⟨RX7, "<init>", "()V"⟩
abbrev cX7_has : ByteArray := prog_9_method_2_code
def yX7_has : MethodName := ⟨RX7, "has", "(I)Z"⟩
abbrev cX7_append : ByteArray := prog_9_method_3_code
def yX7_append : MethodName := ⟨RX7, "append", "(III)I"⟩
abbrev cX7_takeOut : ByteArray := prog_9_method_4_code
def yX7_takeOut : MethodName := ⟨RX7, "takeOut", "(I)V"⟩
abbrev cX7_dropUntil : ByteArray := prog_9_method_5_code
def yX7_dropUntil : MethodName := ⟨RX7, "dropUntil", "(I)I"⟩
abbrev cX7_copyFrom : ByteArray := prog_9_method_6_code
def yX7_copyFrom : MethodName := ⟨RX7, "copyFrom", "(LBoilerBook$Wishes;)V"⟩
def RX8 : String := "BoilerBook"
def TX8 : u_T := fun k => match k with
  | 0 => ("BoilerBook", "now", "LBoilerBook$State;", true)
  | 1 => ("BoilerBook", "before", "LBoilerBook$State;", true)
  | 2 => ("BoilerBook", "snapshot", "LBoilerBook$State;", true)
  | 3 => ("BoilerBook", "kept", "Z", false)
  | 4 => ("BoilerBook", "history", "LBoilerBook$History;", true)
  | 5 => ("BoilerBook", "text", "LBoilerBook$Text;", true)
  | 6 => ("BoilerBook", "course", "LBoilerBook$Course;", true)
  | 7 => ("BoilerBook", "judge", "LBoilerBook$Judge;", true)
  | _ => ("BoilerBook", "repaired", "[Z", true)
def tyX8 : Nat → FieldType := fun k => match k with
  | 0 => .object "BoilerBook$State"
  | 1 => .object "BoilerBook$State"
  | 2 => .object "BoilerBook$State"
  | 3 => .boolean
  | 4 => .object "BoilerBook$History"
  | 5 => .object "BoilerBook$Text"
  | 6 => .object "BoilerBook$Course"
  | 7 => .object "BoilerBook$Judge"
  | _ => .array .boolean
theorem nmX8 : ∀ a, a < 9 → ∀ b, b < 9 → a ≠ b → (TX8 a).2.1 ≠ (TX8 b).2.1 := by decide +kernel
theorem tyX8_ok : ∀ k, k < 9 → parseFieldDescriptor (TX8 k).2.2.1 = some (tyX8 k) := by decide +kernel
abbrev cX8_init : ByteArray := prog_1_method_1_code
def yX8_init : MethodName := ⟨RX8, "<init>", "()V"⟩
abbrev cX8_addRecipe : ByteArray := prog_1_method_2_code
def yX8_addRecipe : MethodName := ⟨RX8, "addRecipe", "(IIII)I"⟩
abbrev cX8_setHeat : ByteArray := prog_1_method_3_code
def yX8_setHeat : MethodName := ⟨RX8, "setHeat", "(I)I"⟩
abbrev cX8_setMost : ByteArray := prog_1_method_4_code
def yX8_setMost : MethodName := ⟨RX8, "setMost", "(I)I"⟩
abbrev cX8_fall : ByteArray := prog_1_method_5_code
def yX8_fall : MethodName := ⟨RX8, "fall", "(I)I"⟩
abbrev cX8_book : ByteArray := prog_1_method_6_code
def yX8_book : MethodName := ⟨RX8, "book", "(III)I"⟩
abbrev cX8_cancel : ByteArray := prog_1_method_7_code
def yX8_cancel : MethodName := ⟨RX8, "cancel", "(I)I"⟩
abbrev cX8_move : ByteArray := prog_1_method_8_code
def yX8_move : MethodName := ⟨RX8, "move", "(II)I"⟩
abbrev cX8_repair : ByteArray := prog_1_method_9_code
def yX8_repair : MethodName := ⟨RX8, "repair", "()I"⟩
abbrev cX8_wish : ByteArray := prog_1_method_10_code
def yX8_wish : MethodName := ⟨RX8, "wish", "(III)I"⟩
abbrev cX8_unwish : ByteArray := prog_1_method_11_code
def yX8_unwish : MethodName := ⟨RX8, "unwish", "(I)I"⟩
abbrev cX8_pass : ByteArray := prog_1_method_12_code
def yX8_pass : MethodName := ⟨RX8, "pass", "(I)I"⟩
abbrev cX8_type : ByteArray := prog_1_method_13_code
def yX8_type : MethodName := ⟨RX8, "type", "(C)I"⟩
abbrev cX8_clearText : ByteArray := prog_1_method_14_code
def yX8_clearText : MethodName := ⟨RX8, "clearText", "()I"⟩
abbrev cX8_bookAll : ByteArray := prog_1_method_15_code
def yX8_bookAll : MethodName := ⟨RX8, "bookAll", "()I"⟩
abbrev cX8_undo : ByteArray := prog_1_method_16_code
def yX8_undo : MethodName := ⟨RX8, "undo", "()I"⟩
abbrev cX8_keep : ByteArray := prog_1_method_17_code
def yX8_keep : MethodName := ⟨RX8, "keep", "()I"⟩
abbrev cX8_restore : ByteArray := prog_1_method_18_code
def yX8_restore : MethodName := ⟨RX8, "restore", "()I"⟩
abbrev cX8_recipe : ByteArray := prog_1_method_19_code
def yX8_recipe : MethodName := ⟨RX8, "recipe", "(II)I"⟩
abbrev cX8_robot : ByteArray := prog_1_method_20_code
def yX8_robot : MethodName := ⟨RX8, "robot", "(II)I"⟩
abbrev cX8_booking : ByteArray := prog_1_method_21_code
def yX8_booking : MethodName := ⟨RX8, "booking", "(II)I"⟩
abbrev cX8_wishTold : ByteArray := prog_1_method_22_code
def yX8_wishTold : MethodName := ⟨RX8, "wishTold", "(II)I"⟩
abbrev cX8_pressureIn : ByteArray := prog_1_method_23_code
def yX8_pressureIn : MethodName := ⟨RX8, "pressureIn", "(I)I"⟩
abbrev cX8_lowestIn : ByteArray := prog_1_method_24_code
def yX8_lowestIn : MethodName := ⟨RX8, "lowestIn", "(I)I"⟩
abbrev cX8_why : ByteArray := prog_1_method_25_code
def yX8_why : MethodName := ⟨RX8, "why", "(IIII)I"⟩
abbrev cX8_earliest : ByteArray := prog_1_method_26_code
def yX8_earliest : MethodName := ⟨RX8, "earliest", "(III)I"⟩
abbrev cX8_count : ByteArray := prog_1_method_27_code
def yX8_count : MethodName := ⟨RX8, "count", "(I)I"⟩
abbrev cX8_within : ByteArray := prog_1_method_28_code
def yX8_within : MethodName := ⟨RX8, "within", "(III)Z"⟩
abbrev cX8_isRobot : ByteArray := prog_1_method_29_code
def yX8_isRobot : MethodName := ⟨RX8, "isRobot", "(I)Z"⟩
abbrev cX8_errorOf : ByteArray := prog_1_method_30_code
def yX8_errorOf : MethodName := ⟨RX8, "errorOf", "(I)I"⟩
abbrev cX8_errorOfBooking : ByteArray := prog_1_method_31_code
def yX8_errorOfBooking : MethodName := ⟨RX8, "errorOfBooking", "(III)I"⟩
abbrev cX8_forecastToEnd : ByteArray := prog_1_method_32_code
def yX8_forecastToEnd : MethodName := ⟨RX8, "forecastToEnd", "()V"⟩
abbrev cX8_countDoomed : ByteArray := prog_1_method_33_code
def yX8_countDoomed : MethodName := ⟨RX8, "countDoomed", "()I"⟩
abbrev cX8_stateInTheEnd : ByteArray := prog_1_method_34_code
def yX8_stateInTheEnd : MethodName := ⟨RX8, "stateInTheEnd", "(I)I"⟩
abbrev cX8_tickOfSpoiling : ByteArray := prog_1_method_35_code
def yX8_tickOfSpoiling : MethodName := ⟨RX8, "tickOfSpoiling", "(I)I"⟩
abbrev cX8_leastSpare : ByteArray := prog_1_method_36_code
def yX8_leastSpare : MethodName := ⟨RX8, "leastSpare", "(I)I"⟩
abbrev cX8_tryWishes : ByteArray := prog_1_method_37_code
def yX8_tryWishes : MethodName := ⟨RX8, "tryWishes", "()I"⟩
abbrev cX8_firstToRepair : ByteArray := prog_1_method_38_code
def yX8_firstToRepair : MethodName := ⟨RX8, "firstToRepair", "()I"⟩
abbrev cX8_wasRepaired : ByteArray := prog_1_method_39_code
def yX8_wasRepaired : MethodName := ⟨RX8, "wasRepaired", "(I)Z"⟩
abbrev cX8_moveLaterOrCancel : ByteArray := prog_1_method_40_code
def yX8_moveLaterOrCancel : MethodName := ⟨RX8, "moveLaterOrCancel", "(I)Z"⟩
abbrev cX8_takeOver : ByteArray := prog_1_method_41_code
def yX8_takeOver : MethodName := ⟨RX8, "takeOver", "(LBoilerBook$Course;)I"⟩
def RX9 : String := "BoilerBookModel"
def TX9 : u_T := fun k => match k with
  | 0 => ("BoilerBookModel", "now", "[I", true)
  | 1 => ("BoilerBookModel", "history", "[I", true)
  | 2 => ("BoilerBookModel", "kept", "I", false)
  | 3 => ("BoilerBookModel", "slot", "[I", true)
  | 4 => ("BoilerBookModel", "isFilled", "Z", false)
  | 5 => ("BoilerBookModel", "spare", "[I", true)
  | 6 => ("BoilerBookModel", "ends", "[I", true)
  | 7 => ("BoilerBookModel", "spoils", "[I", true)
  | 8 => ("BoilerBookModel", "leasts", "[I", true)
  | 9 => ("BoilerBookModel", "base", "[I", true)
  | 10 => ("BoilerBookModel", "pressure", "I", false)
  | 11 => ("BoilerBookModel", "extra", "I", false)
  | 12 => ("BoilerBookModel", "extraStart", "I", false)
  | 13 => ("BoilerBookModel", "out", "I", false)
  | 14 => ("BoilerBookModel", "moved", "I", false)
  | 15 => ("BoilerBookModel", "movedStart", "I", false)
  | 16 => ("BoilerBookModel", "victim", "I", false)
  | 17 => ("BoilerBookModel", "isMended", "[Z", true)
  | 18 => ("BoilerBookModel", "typed", "I", false)
  | 19 => ("BoilerBookModel", "text", "[C", true)
  | 20 => ("BoilerBookModel", "at", "I", false)
  | 21 => ("BoilerBookModel", "number", "I", false)
  | 22 => ("BoilerBookModel", "readRobot", "I", false)
  | _ => ("BoilerBookModel", "readRecipe", "I", false)
def tyX9 : Nat → FieldType := fun k => match k with
  | 0 => .array .int
  | 1 => .array .int
  | 2 => .int
  | 3 => .array .int
  | 4 => .boolean
  | 5 => .array .int
  | 6 => .array .int
  | 7 => .array .int
  | 8 => .array .int
  | 9 => .array .int
  | 10 => .int
  | 11 => .int
  | 12 => .int
  | 13 => .int
  | 14 => .int
  | 15 => .int
  | 16 => .int
  | 17 => .array .boolean
  | 18 => .int
  | 19 => .array .char
  | 20 => .int
  | 21 => .int
  | 22 => .int
  | _ => .int
theorem nmX9 : ∀ a, a < 24 → ∀ b, b < 24 → a ≠ b → (TX9 a).2.1 ≠ (TX9 b).2.1 := by decide +kernel
theorem tyX9_ok : ∀ k, k < 24 → parseFieldDescriptor (TX9 k).2.2.1 = some (tyX9 k) := by decide +kernel
abbrev cX9_init : ByteArray := prog_11_method_1_code
def yX9_init : MethodName := ⟨RX9, "<init>", "()V"⟩
abbrev cX9_in : ByteArray := prog_11_method_2_code
def yX9_in : MethodName := ⟨RX9, "in", "(III)Z"⟩
abbrev cX9_of : ByteArray := prog_11_method_3_code
def yX9_of : MethodName := ⟨RX9, "of", "(II)I"⟩
abbrev cX9_puts : ByteArray := prog_11_method_4_code
def yX9_puts : MethodName := ⟨RX9, "puts", "(III)V"⟩
abbrev cX9_ofRecipe : ByteArray := prog_11_method_5_code
def yX9_ofRecipe : MethodName := ⟨RX9, "ofRecipe", "(II)I"⟩
abbrev cX9_ofWish : ByteArray := prog_11_method_6_code
def yX9_ofWish : MethodName := ⟨RX9, "ofWish", "(II)I"⟩
abbrev cX9_noRecipe : ByteArray := prog_11_method_7_code
def yX9_noRecipe : MethodName := ⟨RX9, "noRecipe", "(I)Z"⟩
abbrev cX9_noRobot : ByteArray := prog_11_method_8_code
def yX9_noRobot : MethodName := ⟨RX9, "noRobot", "(I)Z"⟩
abbrev cX9_noBooking : ByteArray := prog_11_method_9_code
def yX9_noBooking : MethodName := ⟨RX9, "noBooking", "(I)Z"⟩
abbrev cX9_isStart : ByteArray := prog_11_method_10_code
def yX9_isStart : MethodName := ⟨RX9, "isStart", "(I)Z"⟩
abbrev cX9_isOpen : ByteArray := prog_11_method_11_code
def yX9_isOpen : MethodName := ⟨RX9, "isOpen", "(I)Z"⟩
abbrev cX9_record : ByteArray := prog_11_method_12_code
def yX9_record : MethodName := ⟨RX9, "record", "()V"⟩
abbrev cX9_asks : ByteArray := prog_11_method_13_code
def yX9_asks : MethodName := ⟨RX9, "asks", "(IIII)V"⟩
abbrev cX9_begins : ByteArray := prog_11_method_14_code
def yX9_begins : MethodName := ⟨RX9, "begins", "()V"⟩
abbrev cX9_foresees : ByteArray := prog_11_method_15_code
def yX9_foresees : MethodName := ⟨RX9, "foresees", "(I)V"⟩
abbrev cX9_forecast : ByteArray := prog_11_method_16_code
def yX9_forecast : MethodName := ⟨RX9, "forecast", "()V"⟩
abbrev cX9_doomed : ByteArray := prog_11_method_17_code
def yX9_doomed : MethodName := ⟨RX9, "doomed", "()I"⟩
abbrev cX9_last : ByteArray := prog_11_method_18_code
def yX9_last : MethodName := ⟨RX9, "last", "(II)I"⟩
abbrev cX9_keeper : ByteArray := prog_11_method_19_code
def yX9_keeper : MethodName := ⟨RX9, "keeper", "(IIII)I"⟩
abbrev cX9_bases : ByteArray := prog_11_method_20_code
def yX9_bases : MethodName := ⟨RX9, "bases", "(I)V"⟩
abbrev cX9_reason : ByteArray := prog_11_method_21_code
def yX9_reason : MethodName := ⟨RX9, "reason", "(IIII)I"⟩
abbrev cX9_first : ByteArray := prog_11_method_22_code
def yX9_first : MethodName := ⟨RX9, "first", "(IIIII)I"⟩
abbrev cX9_adds : ByteArray := prog_11_method_23_code
def yX9_adds : MethodName := ⟨RX9, "adds", "(III)I"⟩
abbrev cX9_addRecipe : ByteArray := prog_11_method_24_code
def yX9_addRecipe : MethodName := ⟨RX9, "addRecipe", "(IIII)I"⟩
abbrev cX9_setHeat : ByteArray := prog_11_method_25_code
def yX9_setHeat : MethodName := ⟨RX9, "setHeat", "(I)I"⟩
abbrev cX9_setMost : ByteArray := prog_11_method_26_code
def yX9_setMost : MethodName := ⟨RX9, "setMost", "(I)I"⟩
abbrev cX9_fall : ByteArray := prog_11_method_27_code
def yX9_fall : MethodName := ⟨RX9, "fall", "(I)I"⟩
abbrev cX9_wrong : ByteArray := prog_11_method_28_code
def yX9_wrong : MethodName := ⟨RX9, "wrong", "(III)I"⟩
abbrev cX9_book : ByteArray := prog_11_method_29_code
def yX9_book : MethodName := ⟨RX9, "book", "(III)I"⟩
abbrev cX9_grants : ByteArray := prog_11_method_30_code
def yX9_grants : MethodName := ⟨RX9, "grants", "(III)I"⟩
abbrev cX9_leaves : ByteArray := prog_11_method_31_code
def yX9_leaves : MethodName := ⟨RX9, "leaves", "(I)V"⟩
abbrev cX9_cancel : ByteArray := prog_11_method_32_code
def yX9_cancel : MethodName := ⟨RX9, "cancel", "(I)I"⟩
abbrev cX9_move : ByteArray := prog_11_method_33_code
def yX9_move : MethodName := ⟨RX9, "move", "(II)I"⟩
abbrev cX9_sick : ByteArray := prog_11_method_34_code
def yX9_sick : MethodName := ⟨RX9, "sick", "()I"⟩
abbrev cX9_repair : ByteArray := prog_11_method_35_code
def yX9_repair : MethodName := ⟨RX9, "repair", "()I"⟩
abbrev cX9_wish : ByteArray := prog_11_method_36_code
def yX9_wish : MethodName := ⟨RX9, "wish", "(III)I"⟩
abbrev cX9_unwish : ByteArray := prog_11_method_37_code
def yX9_unwish : MethodName := ⟨RX9, "unwish", "(I)I"⟩
abbrev cX9_draws : ByteArray := prog_11_method_38_code
def yX9_draws : MethodName := ⟨RX9, "draws", "(I)Z"⟩
abbrev cX9_aTick : ByteArray := prog_11_method_39_code
def yX9_aTick : MethodName := ⟨RX9, "aTick", "()I"⟩
abbrev cX9_pass : ByteArray := prog_11_method_40_code
def yX9_pass : MethodName := ⟨RX9, "pass", "(I)I"⟩
abbrev cX9_type : ByteArray := prog_11_method_41_code
def yX9_type : MethodName := ⟨RX9, "type", "(C)I"⟩
abbrev cX9_clearText : ByteArray := prog_11_method_42_code
def yX9_clearText : MethodName := ⟨RX9, "clearText", "()I"⟩
abbrev cX9_isDigit : ByteArray := prog_11_method_43_code
def yX9_isDigit : MethodName := ⟨RX9, "isDigit", "()Z"⟩
abbrev cX9_takes : ByteArray := prog_11_method_44_code
def yX9_takes : MethodName := ⟨RX9, "takes", "(I)Z"⟩
abbrev cX9_takesNumber : ByteArray := prog_11_method_45_code
def yX9_takesNumber : MethodName := ⟨RX9, "takesNumber", "(I)Z"⟩
abbrev cX9_takesBooking : ByteArray := prog_11_method_46_code
def yX9_takesBooking : MethodName := ⟨RX9, "takesBooking", "()Z"⟩
abbrev cX9_bookingsOfText : ByteArray := prog_11_method_47_code
def yX9_bookingsOfText : MethodName := ⟨RX9, "bookingsOfText", "()I"⟩
abbrev cX9_bookAll : ByteArray := prog_11_method_48_code
def yX9_bookAll : MethodName := ⟨RX9, "bookAll", "()I"⟩
abbrev cX9_goes : ByteArray := prog_11_method_49_code
def yX9_goes : MethodName := ⟨RX9, "goes", "()V"⟩
abbrev cX9_comes : ByteArray := prog_11_method_50_code
def yX9_comes : MethodName := ⟨RX9, "comes", "()V"⟩
abbrev cX9_trades : ByteArray := prog_11_method_51_code
def yX9_trades : MethodName := ⟨RX9, "trades", "()V"⟩
abbrev cX9_undo : ByteArray := prog_11_method_52_code
def yX9_undo : MethodName := ⟨RX9, "undo", "()I"⟩
abbrev cX9_keep : ByteArray := prog_11_method_53_code
def yX9_keep : MethodName := ⟨RX9, "keep", "()I"⟩
abbrev cX9_restore : ByteArray := prog_11_method_54_code
def yX9_restore : MethodName := ⟨RX9, "restore", "()I"⟩
abbrev cX9_bookings : ByteArray := prog_11_method_55_code
def yX9_bookings : MethodName := ⟨RX9, "bookings", "(IIII)I"⟩
abbrev cX9_recipe : ByteArray := prog_11_method_56_code
def yX9_recipe : MethodName := ⟨RX9, "recipe", "(II)I"⟩
abbrev cX9_robot : ByteArray := prog_11_method_57_code
def yX9_robot : MethodName := ⟨RX9, "robot", "(II)I"⟩
abbrev cX9_booking : ByteArray := prog_11_method_58_code
def yX9_booking : MethodName := ⟨RX9, "booking", "(II)I"⟩
abbrev cX9_wishTold : ByteArray := prog_11_method_59_code
def yX9_wishTold : MethodName := ⟨RX9, "wishTold", "(II)I"⟩
abbrev cX9_pressureIn : ByteArray := prog_11_method_60_code
def yX9_pressureIn : MethodName := ⟨RX9, "pressureIn", "(I)I"⟩
abbrev cX9_lowestIn : ByteArray := prog_11_method_61_code
def yX9_lowestIn : MethodName := ⟨RX9, "lowestIn", "(I)I"⟩
abbrev cX9_why : ByteArray := prog_11_method_62_code
def yX9_why : MethodName := ⟨RX9, "why", "(IIII)I"⟩
abbrev cX9_earliest : ByteArray := prog_11_method_63_code
def yX9_earliest : MethodName := ⟨RX9, "earliest", "(III)I"⟩
abbrev cX9_count : ByteArray := prog_11_method_64_code
def yX9_count : MethodName := ⟨RX9, "count", "(I)I"⟩
def RJ9 : String := "java/lang/Math"
def RJ10 : String := "java/lang/System"
def RL : String := "BoilerBookLaw"
abbrev cL_law : ByteArray := code
def yL_law : MethodName := ⟨RL, "law", "([I)Z"⟩
