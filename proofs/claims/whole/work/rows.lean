section
-- ===== PART A: goes FIRST, ahead of the names: the tables' words, and 'selects' of the private methods out of them =====
/-- a private method of a class that the tables say can be made, by its rows of tables_1 -/
def lw_okq (q : MethodName × Nat) : Prop := (q.1.cls ≠ "java/lang/invoke/MethodHandle" ∧ q.1.cls ≠ "java/lang/invoke/VarHandle") ∧ Cond.instantiable q.1.cls q.2 ∈ tables_1 ∧ Cond.privateMethod q.1 ∈ tables_1 ∧ Cond.instanceMethod q.1 ∈ tables_1
theorem lw_p0 : lw_okq (⟨"SquareCaller$Tape", "readText", "()I"⟩, 4) := ⟨⟨by decide +kernel, by decide +kernel⟩, List.mem_of_getElem? (i := 26) (by decide +kernel), List.mem_of_getElem? (i := 241) (by decide +kernel), List.mem_of_getElem? (i := 242) (by decide +kernel)⟩
theorem lw_p1 : lw_okq (⟨"SquareCaller$Tape", "readCall", "(I)I"⟩, 4) := ⟨⟨by decide +kernel, by decide +kernel⟩, List.mem_of_getElem? (i := 26) (by decide +kernel), List.mem_of_getElem? (i := 245) (by decide +kernel), List.mem_of_getElem? (i := 246) (by decide +kernel)⟩
theorem lw_p2 : lw_okq (⟨"SquareCaller$Tape", "wordEnd", "(I)I"⟩, 4) := ⟨⟨by decide +kernel, by decide +kernel⟩, List.mem_of_getElem? (i := 26) (by decide +kernel), List.mem_of_getElem? (i := 249) (by decide +kernel), List.mem_of_getElem? (i := 250) (by decide +kernel)⟩
theorem lw_p3 : lw_okq (⟨"SquareCaller$Tape", "byteAt", "(I)I"⟩, 4) := ⟨⟨by decide +kernel, by decide +kernel⟩, List.mem_of_getElem? (i := 26) (by decide +kernel), List.mem_of_getElem? (i := 253) (by decide +kernel), List.mem_of_getElem? (i := 254) (by decide +kernel)⟩
theorem lw_p4 : lw_okq (⟨"SquareCaller$Tape", "figureIn", "(II)I"⟩, 4) := ⟨⟨by decide +kernel, by decide +kernel⟩, List.mem_of_getElem? (i := 26) (by decide +kernel), List.mem_of_getElem? (i := 257) (by decide +kernel), List.mem_of_getElem? (i := 258) (by decide +kernel)⟩
theorem lw_p5 : lw_okq (⟨"SquareCaller$Tape", "isWord", "(Ljava/lang/String;II)Z"⟩, 4) := ⟨⟨by decide +kernel, by decide +kernel⟩, List.mem_of_getElem? (i := 26) (by decide +kernel), List.mem_of_getElem? (i := 277) (by decide +kernel), List.mem_of_getElem? (i := 278) (by decide +kernel)⟩
theorem lw_p6 : lw_okq (⟨"SquareCaller$Tape", "whoIn", "(II)I"⟩, 4) := ⟨⟨by decide +kernel, by decide +kernel⟩, List.mem_of_getElem? (i := 26) (by decide +kernel), List.mem_of_getElem? (i := 329) (by decide +kernel), List.mem_of_getElem? (i := 330) (by decide +kernel)⟩
theorem lw_p7 : lw_okq (⟨"SquareCaller$Tape", "addCalls", "(II)V"⟩, 4) := ⟨⟨by decide +kernel, by decide +kernel⟩, List.mem_of_getElem? (i := 26) (by decide +kernel), List.mem_of_getElem? (i := 345) (by decide +kernel), List.mem_of_getElem? (i := 346) (by decide +kernel)⟩
theorem lw_p8 : lw_okq (⟨"SquareCaller$Floor", "isMeant", "(II)Z"⟩, 8) := ⟨⟨by decide +kernel, by decide +kernel⟩, List.mem_of_getElem? (i := 48) (by decide +kernel), List.mem_of_getElem? (i := 379) (by decide +kernel), List.mem_of_getElem? (i := 380) (by decide +kernel)⟩
theorem lw_p9 : lw_okq (⟨"SquareCaller$Floor", "facesLike", "(II)Z"⟩, 8) := ⟨⟨by decide +kernel, by decide +kernel⟩, List.mem_of_getElem? (i := 48) (by decide +kernel), List.mem_of_getElem? (i := 397) (by decide +kernel), List.mem_of_getElem? (i := 398) (by decide +kernel)⟩
theorem lw_p10 : lw_okq (⟨"SquareCaller$Floor", "startPlan", "()V"⟩, 8) := ⟨⟨by decide +kernel, by decide +kernel⟩, List.mem_of_getElem? (i := 48) (by decide +kernel), List.mem_of_getElem? (i := 401) (by decide +kernel), List.mem_of_getElem? (i := 402) (by decide +kernel)⟩
theorem lw_p11 : lw_okq (⟨"SquareCaller$Floor", "planRing", "(I)V"⟩, 8) := ⟨⟨by decide +kernel, by decide +kernel⟩, List.mem_of_getElem? (i := 48) (by decide +kernel), List.mem_of_getElem? (i := 405) (by decide +kernel), List.mem_of_getElem? (i := 406) (by decide +kernel)⟩
theorem lw_p12 : lw_okq (⟨"SquareCaller$Floor", "isRing", "()Z"⟩, 8) := ⟨⟨by decide +kernel, by decide +kernel⟩, List.mem_of_getElem? (i := 48) (by decide +kernel), List.mem_of_getElem? (i := 409) (by decide +kernel), List.mem_of_getElem? (i := 410) (by decide +kernel)⟩
theorem lw_p13 : lw_okq (⟨"SquareCaller$Floor", "planEach", "(II)V"⟩, 8) := ⟨⟨by decide +kernel, by decide +kernel⟩, List.mem_of_getElem? (i := 48) (by decide +kernel), List.mem_of_getElem? (i := 415) (by decide +kernel), List.mem_of_getElem? (i := 416) (by decide +kernel)⟩
theorem lw_p14 : lw_okq (⟨"SquareCaller$Floor", "turn", "(II)V"⟩, 8) := ⟨⟨by decide +kernel, by decide +kernel⟩, List.mem_of_getElem? (i := 48) (by decide +kernel), List.mem_of_getElem? (i := 422) (by decide +kernel), List.mem_of_getElem? (i := 423) (by decide +kernel)⟩
theorem lw_p15 : lw_okq (⟨"SquareCaller$Floor", "planPairs", "(II)V"⟩, 8) := ⟨⟨by decide +kernel, by decide +kernel⟩, List.mem_of_getElem? (i := 48) (by decide +kernel), List.mem_of_getElem? (i := 426) (by decide +kernel), List.mem_of_getElem? (i := 427) (by decide +kernel)⟩
def lw_privs_1 : List (MethodName × Nat) := [(⟨"SquareCaller$Tape", "readText", "()I"⟩, 4), (⟨"SquareCaller$Tape", "readCall", "(I)I"⟩, 4), (⟨"SquareCaller$Tape", "wordEnd", "(I)I"⟩, 4), (⟨"SquareCaller$Tape", "byteAt", "(I)I"⟩, 4), (⟨"SquareCaller$Tape", "figureIn", "(II)I"⟩, 4), (⟨"SquareCaller$Tape", "isWord", "(Ljava/lang/String;II)Z"⟩, 4), (⟨"SquareCaller$Tape", "whoIn", "(II)I"⟩, 4), (⟨"SquareCaller$Tape", "addCalls", "(II)V"⟩, 4), (⟨"SquareCaller$Floor", "isMeant", "(II)Z"⟩, 8), (⟨"SquareCaller$Floor", "facesLike", "(II)Z"⟩, 8), (⟨"SquareCaller$Floor", "startPlan", "()V"⟩, 8), (⟨"SquareCaller$Floor", "planRing", "(I)V"⟩, 8), (⟨"SquareCaller$Floor", "isRing", "()Z"⟩, 8), (⟨"SquareCaller$Floor", "planEach", "(II)V"⟩, 8), (⟨"SquareCaller$Floor", "turn", "(II)V"⟩, 8), (⟨"SquareCaller$Floor", "planPairs", "(II)V"⟩, 8)]
theorem lw_r1 : ∀ q ∈ lw_privs_1, lw_okq q := List.forall_mem_cons.mpr ⟨lw_p0, List.forall_mem_cons.mpr ⟨lw_p1, List.forall_mem_cons.mpr ⟨lw_p2, List.forall_mem_cons.mpr ⟨lw_p3, List.forall_mem_cons.mpr ⟨lw_p4, List.forall_mem_cons.mpr ⟨lw_p5, List.forall_mem_cons.mpr ⟨lw_p6, List.forall_mem_cons.mpr ⟨lw_p7, List.forall_mem_cons.mpr ⟨lw_p8, List.forall_mem_cons.mpr ⟨lw_p9, List.forall_mem_cons.mpr ⟨lw_p10, List.forall_mem_cons.mpr ⟨lw_p11, List.forall_mem_cons.mpr ⟨lw_p12, List.forall_mem_cons.mpr ⟨lw_p13, List.forall_mem_cons.mpr ⟨lw_p14, List.forall_mem_cons.mpr ⟨lw_p15, fun _ h => absurd h List.not_mem_nil⟩⟩⟩⟩⟩⟩⟩⟩⟩⟩⟩⟩⟩⟩⟩⟩
theorem lw_p16 : lw_okq (⟨"SquareCaller$Floor", "partnerOf", "(III)I"⟩, 8) := ⟨⟨by decide +kernel, by decide +kernel⟩, List.mem_of_getElem? (i := 48) (by decide +kernel), List.mem_of_getElem? (i := 430) (by decide +kernel), List.mem_of_getElem? (i := 431) (by decide +kernel)⟩
theorem lw_p17 : lw_okq (⟨"SquareCaller$Floor", "planFold", "(II)V"⟩, 8) := ⟨⟨by decide +kernel, by decide +kernel⟩, List.mem_of_getElem? (i := 48) (by decide +kernel), List.mem_of_getElem? (i := 434) (by decide +kernel), List.mem_of_getElem? (i := 435) (by decide +kernel)⟩
theorem lw_p18 : lw_okq (⟨"SquareCaller$Floor", "planChange", "(III)V"⟩, 8) := ⟨⟨by decide +kernel, by decide +kernel⟩, List.mem_of_getElem? (i := 48) (by decide +kernel), List.mem_of_getElem? (i := 438) (by decide +kernel), List.mem_of_getElem? (i := 439) (by decide +kernel)⟩
theorem lw_p19 : lw_okq (⟨"SquareCaller$Floor", "someFall", "()Z"⟩, 8) := ⟨⟨by decide +kernel, by decide +kernel⟩, List.mem_of_getElem? (i := 48) (by decide +kernel), List.mem_of_getElem? (i := 442) (by decide +kernel), List.mem_of_getElem? (i := 443) (by decide +kernel)⟩
theorem lw_p20 : lw_okq (⟨"SquareCaller$Floor", "goes", "(I)Z"⟩, 8) := ⟨⟨by decide +kernel, by decide +kernel⟩, List.mem_of_getElem? (i := 48) (by decide +kernel), List.mem_of_getElem? (i := 446) (by decide +kernel), List.mem_of_getElem? (i := 447) (by decide +kernel)⟩
theorem lw_p21 : lw_okq (⟨"SquareCaller$Floor", "whyFalls", "(I)I"⟩, 8) := ⟨⟨by decide +kernel, by decide +kernel⟩, List.mem_of_getElem? (i := 48) (by decide +kernel), List.mem_of_getElem? (i := 450) (by decide +kernel), List.mem_of_getElem? (i := 451) (by decide +kernel)⟩
theorem lw_p22 : lw_okq (⟨"SquareCaller", "tallyFigure", "(I)V"⟩, 9) := ⟨⟨by decide +kernel, by decide +kernel⟩, List.mem_of_getElem? (i := 18) (by decide +kernel), List.mem_of_getElem? (i := 468) (by decide +kernel), List.mem_of_getElem? (i := 469) (by decide +kernel)⟩
theorem lw_p23 : lw_okq (⟨"SquareCaller$WayHome", "add", "(JII)Z"⟩, 9) := ⟨⟨by decide +kernel, by decide +kernel⟩, List.mem_of_getElem? (i := 142) (by decide +kernel), List.mem_of_getElem? (i := 550) (by decide +kernel), List.mem_of_getElem? (i := 551) (by decide +kernel)⟩
theorem lw_p24 : lw_okq (⟨"SquareCaller$WayHome", "comeTo", "(JII)V"⟩, 9) := ⟨⟨by decide +kernel, by decide +kernel⟩, List.mem_of_getElem? (i := 142) (by decide +kernel), List.mem_of_getElem? (i := 557) (by decide +kernel), List.mem_of_getElem? (i := 558) (by decide +kernel)⟩
theorem lw_p25 : lw_okq (⟨"SquareCaller$WayHome", "trace", "(II)I"⟩, 9) := ⟨⟨by decide +kernel, by decide +kernel⟩, List.mem_of_getElem? (i := 142) (by decide +kernel), List.mem_of_getElem? (i := 561) (by decide +kernel), List.mem_of_getElem? (i := 562) (by decide +kernel)⟩
theorem lw_p26 : lw_okq (⟨"SquareCaller", "danceInThought", "()Z"⟩, 9) := ⟨⟨by decide +kernel, by decide +kernel⟩, List.mem_of_getElem? (i := 18) (by decide +kernel), List.mem_of_getElem? (i := 576) (by decide +kernel), List.mem_of_getElem? (i := 577) (by decide +kernel)⟩
theorem lw_p27 : lw_okq (⟨"SquareCaller$Print", "put", "(I)V"⟩, 3) := ⟨⟨by decide +kernel, by decide +kernel⟩, List.mem_of_getElem? (i := 179) (by decide +kernel), List.mem_of_getElem? (i := 622) (by decide +kernel), List.mem_of_getElem? (i := 623) (by decide +kernel)⟩
theorem lw_p28 : lw_okq (⟨"SquareCaller$Print", "writeCall", "(II)V"⟩, 3) := ⟨⟨by decide +kernel, by decide +kernel⟩, List.mem_of_getElem? (i := 179) (by decide +kernel), List.mem_of_getElem? (i := 627) (by decide +kernel), List.mem_of_getElem? (i := 628) (by decide +kernel)⟩
theorem lw_p29 : lw_okq (⟨"SquareCaller$Print", "putWord", "(Ljava/lang/String;)V"⟩, 3) := ⟨⟨by decide +kernel, by decide +kernel⟩, List.mem_of_getElem? (i := 179) (by decide +kernel), List.mem_of_getElem? (i := 632) (by decide +kernel), List.mem_of_getElem? (i := 633) (by decide +kernel)⟩
theorem lw_p30 : lw_okq (⟨"SquareCallerModel", "code", "()J"⟩, 35) := ⟨⟨by decide +kernel, by decide +kernel⟩, List.mem_of_getElem? (i := 672) (by decide +kernel), List.mem_of_getElem? (i := 705) (by decide +kernel), List.mem_of_getElem? (i := 706) (by decide +kernel)⟩
theorem lw_p31 : lw_okq (⟨"SquareCallerModel", "looks", "(J)V"⟩, 35) := ⟨⟨by decide +kernel, by decide +kernel⟩, List.mem_of_getElem? (i := 672) (by decide +kernel), List.mem_of_getElem? (i := 709) (by decide +kernel), List.mem_of_getElem? (i := 710) (by decide +kernel)⟩
def lw_privs_2 : List (MethodName × Nat) := [(⟨"SquareCaller$Floor", "partnerOf", "(III)I"⟩, 8), (⟨"SquareCaller$Floor", "planFold", "(II)V"⟩, 8), (⟨"SquareCaller$Floor", "planChange", "(III)V"⟩, 8), (⟨"SquareCaller$Floor", "someFall", "()Z"⟩, 8), (⟨"SquareCaller$Floor", "goes", "(I)Z"⟩, 8), (⟨"SquareCaller$Floor", "whyFalls", "(I)I"⟩, 8), (⟨"SquareCaller", "tallyFigure", "(I)V"⟩, 9), (⟨"SquareCaller$WayHome", "add", "(JII)Z"⟩, 9), (⟨"SquareCaller$WayHome", "comeTo", "(JII)V"⟩, 9), (⟨"SquareCaller$WayHome", "trace", "(II)I"⟩, 9), (⟨"SquareCaller", "danceInThought", "()Z"⟩, 9), (⟨"SquareCaller$Print", "put", "(I)V"⟩, 3), (⟨"SquareCaller$Print", "writeCall", "(II)V"⟩, 3), (⟨"SquareCaller$Print", "putWord", "(Ljava/lang/String;)V"⟩, 3), (⟨"SquareCallerModel", "code", "()J"⟩, 35), (⟨"SquareCallerModel", "looks", "(J)V"⟩, 35)]
theorem lw_r2 : ∀ q ∈ lw_privs_2, lw_okq q := List.forall_mem_cons.mpr ⟨lw_p16, List.forall_mem_cons.mpr ⟨lw_p17, List.forall_mem_cons.mpr ⟨lw_p18, List.forall_mem_cons.mpr ⟨lw_p19, List.forall_mem_cons.mpr ⟨lw_p20, List.forall_mem_cons.mpr ⟨lw_p21, List.forall_mem_cons.mpr ⟨lw_p22, List.forall_mem_cons.mpr ⟨lw_p23, List.forall_mem_cons.mpr ⟨lw_p24, List.forall_mem_cons.mpr ⟨lw_p25, List.forall_mem_cons.mpr ⟨lw_p26, List.forall_mem_cons.mpr ⟨lw_p27, List.forall_mem_cons.mpr ⟨lw_p28, List.forall_mem_cons.mpr ⟨lw_p29, List.forall_mem_cons.mpr ⟨lw_p30, List.forall_mem_cons.mpr ⟨lw_p31, fun _ h => absurd h List.not_mem_nil⟩⟩⟩⟩⟩⟩⟩⟩⟩⟩⟩⟩⟩⟩⟩⟩
theorem lw_p32 : lw_okq (⟨"SquareCallerModel", "isText", "()Z"⟩, 35) := ⟨⟨by decide +kernel, by decide +kernel⟩, List.mem_of_getElem? (i := 672) (by decide +kernel), List.mem_of_getElem? (i := 831) (by decide +kernel), List.mem_of_getElem? (i := 832) (by decide +kernel)⟩
theorem lw_p33 : lw_okq (⟨"SquareCallerModel", "reads", "()V"⟩, 35) := ⟨⟨by decide +kernel, by decide +kernel⟩, List.mem_of_getElem? (i := 672) (by decide +kernel), List.mem_of_getElem? (i := 835) (by decide +kernel), List.mem_of_getElem? (i := 836) (by decide +kernel)⟩
theorem lw_p34 : lw_okq (⟨"SquareCallerModel", "wordFrom", "(I)I"⟩, 35) := ⟨⟨by decide +kernel, by decide +kernel⟩, List.mem_of_getElem? (i := 672) (by decide +kernel), List.mem_of_getElem? (i := 839) (by decide +kernel), List.mem_of_getElem? (i := 840) (by decide +kernel)⟩
theorem lw_p35 : lw_okq (⟨"SquareCallerModel", "find", "([Ljava/lang/String;I)I"⟩, 35) := ⟨⟨by decide +kernel, by decide +kernel⟩, List.mem_of_getElem? (i := 672) (by decide +kernel), List.mem_of_getElem? (i := 843) (by decide +kernel), List.mem_of_getElem? (i := 844) (by decide +kernel)⟩
theorem lw_p36 : lw_okq (⟨"SquareCallerModel", "sees", "(I)Z"⟩, 35) := ⟨⟨by decide +kernel, by decide +kernel⟩, List.mem_of_getElem? (i := 672) (by decide +kernel), List.mem_of_getElem? (i := 849) (by decide +kernel), List.mem_of_getElem? (i := 850) (by decide +kernel)⟩
theorem lw_p37 : lw_okq (⟨"SquareCallerModel", "fails", "(I)V"⟩, 35) := ⟨⟨by decide +kernel, by decide +kernel⟩, List.mem_of_getElem? (i := 672) (by decide +kernel), List.mem_of_getElem? (i := 853) (by decide +kernel), List.mem_of_getElem? (i := 854) (by decide +kernel)⟩
theorem lw_p38 : lw_okq (⟨"SquareCallerModel", "looksNow", "()V"⟩, 35) := ⟨⟨by decide +kernel, by decide +kernel⟩, List.mem_of_getElem? (i := 672) (by decide +kernel), List.mem_of_getElem? (i := 860) (by decide +kernel), List.mem_of_getElem? (i := 861) (by decide +kernel)⟩
theorem lw_p39 : lw_okq (⟨"SquareCallerModel", "tries", "(II)Z"⟩, 35) := ⟨⟨by decide +kernel, by decide +kernel⟩, List.mem_of_getElem? (i := 672) (by decide +kernel), List.mem_of_getElem? (i := 864) (by decide +kernel), List.mem_of_getElem? (i := 865) (by decide +kernel)⟩
theorem lw_p40 : lw_okq (⟨"SquareCallerModel", "meantBy", "(I)I"⟩, 35) := ⟨⟨by decide +kernel, by decide +kernel⟩, List.mem_of_getElem? (i := 672) (by decide +kernel), List.mem_of_getElem? (i := 868) (by decide +kernel), List.mem_of_getElem? (i := 869) (by decide +kernel)⟩
theorem lw_p41 : lw_okq (⟨"SquareCallerModel", "isMeant", "(II)Z"⟩, 35) := ⟨⟨by decide +kernel, by decide +kernel⟩, List.mem_of_getElem? (i := 672) (by decide +kernel), List.mem_of_getElem? (i := 872) (by decide +kernel), List.mem_of_getElem? (i := 873) (by decide +kernel)⟩
theorem lw_p42 : lw_okq (⟨"SquareCallerModel", "beside", "(II)I"⟩, 35) := ⟨⟨by decide +kernel, by decide +kernel⟩, List.mem_of_getElem? (i := 672) (by decide +kernel), List.mem_of_getElem? (i := 881) (by decide +kernel), List.mem_of_getElem? (i := 882) (by decide +kernel)⟩
theorem lw_p43 : lw_okq (⟨"SquareCallerModel", "rings", "(I)V"⟩, 35) := ⟨⟨by decide +kernel, by decide +kernel⟩, List.mem_of_getElem? (i := 672) (by decide +kernel), List.mem_of_getElem? (i := 888) (by decide +kernel), List.mem_of_getElem? (i := 889) (by decide +kernel)⟩
theorem lw_p44 : lw_okq (⟨"SquareCallerModel", "goesTo", "(II)V"⟩, 35) := ⟨⟨by decide +kernel, by decide +kernel⟩, List.mem_of_getElem? (i := 672) (by decide +kernel), List.mem_of_getElem? (i := 895) (by decide +kernel), List.mem_of_getElem? (i := 896) (by decide +kernel)⟩
theorem lw_p45 : lw_okq (⟨"SquareCallerModel", "pairs", "(II)V"⟩, 35) := ⟨⟨by decide +kernel, by decide +kernel⟩, List.mem_of_getElem? (i := 672) (by decide +kernel), List.mem_of_getElem? (i := 899) (by decide +kernel), List.mem_of_getElem? (i := 900) (by decide +kernel)⟩
theorem lw_p46 : lw_okq (⟨"SquareCallerModel", "mateOf", "(III)I"⟩, 35) := ⟨⟨by decide +kernel, by decide +kernel⟩, List.mem_of_getElem? (i := 672) (by decide +kernel), List.mem_of_getElem? (i := 903) (by decide +kernel), List.mem_of_getElem? (i := 904) (by decide +kernel)⟩
theorem lw_p47 : lw_okq (⟨"SquareCallerModel", "mayPair", "(IIII)Z"⟩, 35) := ⟨⟨by decide +kernel, by decide +kernel⟩, List.mem_of_getElem? (i := 672) (by decide +kernel), List.mem_of_getElem? (i := 907) (by decide +kernel), List.mem_of_getElem? (i := 908) (by decide +kernel)⟩
def lw_privs_3 : List (MethodName × Nat) := [(⟨"SquareCallerModel", "isText", "()Z"⟩, 35), (⟨"SquareCallerModel", "reads", "()V"⟩, 35), (⟨"SquareCallerModel", "wordFrom", "(I)I"⟩, 35), (⟨"SquareCallerModel", "find", "([Ljava/lang/String;I)I"⟩, 35), (⟨"SquareCallerModel", "sees", "(I)Z"⟩, 35), (⟨"SquareCallerModel", "fails", "(I)V"⟩, 35), (⟨"SquareCallerModel", "looksNow", "()V"⟩, 35), (⟨"SquareCallerModel", "tries", "(II)Z"⟩, 35), (⟨"SquareCallerModel", "meantBy", "(I)I"⟩, 35), (⟨"SquareCallerModel", "isMeant", "(II)Z"⟩, 35), (⟨"SquareCallerModel", "beside", "(II)I"⟩, 35), (⟨"SquareCallerModel", "rings", "(I)V"⟩, 35), (⟨"SquareCallerModel", "goesTo", "(II)V"⟩, 35), (⟨"SquareCallerModel", "pairs", "(II)V"⟩, 35), (⟨"SquareCallerModel", "mateOf", "(III)I"⟩, 35), (⟨"SquareCallerModel", "mayPair", "(IIII)Z"⟩, 35)]
theorem lw_r3 : ∀ q ∈ lw_privs_3, lw_okq q := List.forall_mem_cons.mpr ⟨lw_p32, List.forall_mem_cons.mpr ⟨lw_p33, List.forall_mem_cons.mpr ⟨lw_p34, List.forall_mem_cons.mpr ⟨lw_p35, List.forall_mem_cons.mpr ⟨lw_p36, List.forall_mem_cons.mpr ⟨lw_p37, List.forall_mem_cons.mpr ⟨lw_p38, List.forall_mem_cons.mpr ⟨lw_p39, List.forall_mem_cons.mpr ⟨lw_p40, List.forall_mem_cons.mpr ⟨lw_p41, List.forall_mem_cons.mpr ⟨lw_p42, List.forall_mem_cons.mpr ⟨lw_p43, List.forall_mem_cons.mpr ⟨lw_p44, List.forall_mem_cons.mpr ⟨lw_p45, List.forall_mem_cons.mpr ⟨lw_p46, List.forall_mem_cons.mpr ⟨lw_p47, fun _ h => absurd h List.not_mem_nil⟩⟩⟩⟩⟩⟩⟩⟩⟩⟩⟩⟩⟩⟩⟩⟩
theorem lw_p48 : lw_okq (⟨"SquareCallerModel", "folds", "(II)V"⟩, 35) := ⟨⟨by decide +kernel, by decide +kernel⟩, List.mem_of_getElem? (i := 672) (by decide +kernel), List.mem_of_getElem? (i := 911) (by decide +kernel), List.mem_of_getElem? (i := 912) (by decide +kernel)⟩
theorem lw_p49 : lw_okq (⟨"SquareCallerModel", "turns", "(II)V"⟩, 35) := ⟨⟨by decide +kernel, by decide +kernel⟩, List.mem_of_getElem? (i := 672) (by decide +kernel), List.mem_of_getElem? (i := 915) (by decide +kernel), List.mem_of_getElem? (i := 916) (by decide +kernel)⟩
theorem lw_p50 : lw_okq (⟨"SquareCallerModel", "fallOf", "(I)I"⟩, 35) := ⟨⟨by decide +kernel, by decide +kernel⟩, List.mem_of_getElem? (i := 672) (by decide +kernel), List.mem_of_getElem? (i := 919) (by decide +kernel), List.mem_of_getElem? (i := 920) (by decide +kernel)⟩
theorem lw_p51 : lw_okq (⟨"SquareCallerModel", "dances", "(I)V"⟩, 35) := ⟨⟨by decide +kernel, by decide +kernel⟩, List.mem_of_getElem? (i := 672) (by decide +kernel), List.mem_of_getElem? (i := 923) (by decide +kernel), List.mem_of_getElem? (i := 924) (by decide +kernel)⟩
theorem lw_p52 : lw_okq (⟨"SquareCallerModel", "made", "()J"⟩, 35) := ⟨⟨by decide +kernel, by decide +kernel⟩, List.mem_of_getElem? (i := 672) (by decide +kernel), List.mem_of_getElem? (i := 927) (by decide +kernel), List.mem_of_getElem? (i := 928) (by decide +kernel)⟩
theorem lw_p53 : lw_okq (⟨"SquareCallerModel", "searches", "()I"⟩, 35) := ⟨⟨by decide +kernel, by decide +kernel⟩, List.mem_of_getElem? (i := 672) (by decide +kernel), List.mem_of_getElem? (i := 971) (by decide +kernel), List.mem_of_getElem? (i := 972) (by decide +kernel)⟩
theorem lw_p54 : lw_okq (⟨"SquareCallerModel", "quarters", "(JJZ)I"⟩, 35) := ⟨⟨by decide +kernel, by decide +kernel⟩, List.mem_of_getElem? (i := 672) (by decide +kernel), List.mem_of_getElem? (i := 983) (by decide +kernel), List.mem_of_getElem? (i := 984) (by decide +kernel)⟩
theorem lw_p55 : lw_okq (⟨"SquareCallerModel", "quarter", "(JZ)J"⟩, 35) := ⟨⟨by decide +kernel, by decide +kernel⟩, List.mem_of_getElem? (i := 672) (by decide +kernel), List.mem_of_getElem? (i := 987) (by decide +kernel), List.mem_of_getElem? (i := 988) (by decide +kernel)⟩
theorem lw_p56 : lw_okq (⟨"SquareCallerModel", "prints", "(I)V"⟩, 35) := ⟨⟨by decide +kernel, by decide +kernel⟩, List.mem_of_getElem? (i := 672) (by decide +kernel), List.mem_of_getElem? (i := 999) (by decide +kernel), List.mem_of_getElem? (i := 1000) (by decide +kernel)⟩
theorem lw_p57 : lw_okq (⟨"SquareCallerModel", "prints", "(Ljava/lang/String;)V"⟩, 35) := ⟨⟨by decide +kernel, by decide +kernel⟩, List.mem_of_getElem? (i := 672) (by decide +kernel), List.mem_of_getElem? (i := 1003) (by decide +kernel), List.mem_of_getElem? (i := 1004) (by decide +kernel)⟩
def lw_privs_4 : List (MethodName × Nat) := [(⟨"SquareCallerModel", "folds", "(II)V"⟩, 35), (⟨"SquareCallerModel", "turns", "(II)V"⟩, 35), (⟨"SquareCallerModel", "fallOf", "(I)I"⟩, 35), (⟨"SquareCallerModel", "dances", "(I)V"⟩, 35), (⟨"SquareCallerModel", "made", "()J"⟩, 35), (⟨"SquareCallerModel", "searches", "()I"⟩, 35), (⟨"SquareCallerModel", "quarters", "(JJZ)I"⟩, 35), (⟨"SquareCallerModel", "quarter", "(JZ)J"⟩, 35), (⟨"SquareCallerModel", "prints", "(I)V"⟩, 35), (⟨"SquareCallerModel", "prints", "(Ljava/lang/String;)V"⟩, 35)]
theorem lw_r4 : ∀ q ∈ lw_privs_4, lw_okq q := List.forall_mem_cons.mpr ⟨lw_p48, List.forall_mem_cons.mpr ⟨lw_p49, List.forall_mem_cons.mpr ⟨lw_p50, List.forall_mem_cons.mpr ⟨lw_p51, List.forall_mem_cons.mpr ⟨lw_p52, List.forall_mem_cons.mpr ⟨lw_p53, List.forall_mem_cons.mpr ⟨lw_p54, List.forall_mem_cons.mpr ⟨lw_p55, List.forall_mem_cons.mpr ⟨lw_p56, List.forall_mem_cons.mpr ⟨lw_p57, fun _ h => absurd h List.not_mem_nil⟩⟩⟩⟩⟩⟩⟩⟩⟩⟩
def lw_privs : List (MethodName × Nat) := lw_privs_1 ++ (lw_privs_2 ++ (lw_privs_3 ++ (lw_privs_4)))
def lw_tbl : List Cond := k2_sels lw_privs ++ tables_1
theorem lw_privs_ok : ∀ q ∈ lw_privs, lw_okq q := by
  show ∀ q ∈ lw_privs_1 ++ (lw_privs_2 ++ (lw_privs_3 ++ (lw_privs_4))), lw_okq q
  exact List.forall_mem_append.mpr ⟨lw_r1, List.forall_mem_append.mpr ⟨lw_r2, List.forall_mem_append.mpr ⟨lw_r3, lw_r4⟩⟩⟩
end
section
def RX0 : String := "SquareCaller$Dance"
def TX0 : u_T := fun k => match k with
  | 0 => ("SquareCaller$Dance", "codes", "[I", true)
  | 1 => ("SquareCaller$Dance", "passed", "[J", true)
  | 2 => ("SquareCaller$Dance", "scratch", "[J", true)
  | 3 => ("SquareCaller$Dance", "size", "I", false)
  | _ => ("SquareCaller$Dance", "sizeWithUndone", "I", false)
def tyX0 : Nat → FieldType := fun k => match k with
  | 0 => .array .int
  | 1 => .array .long
  | 2 => .array .long
  | 3 => .int
  | _ => .int
theorem nmX0 : ∀ a, a < 5 → ∀ b, b < 5 → a ≠ b → (TX0 a).2.1 ≠ (TX0 b).2.1 := by decide +kernel
theorem tyX0_ok : ∀ k, k < 5 → parseFieldDescriptor (TX0 k).2.2.1 = some (tyX0 k) := by decide +kernel
abbrev cX0_init : ByteArray := prog_2_method_1_code
def yX0_init : MethodName := ⟨RX0, "<init>", "()V"⟩
abbrev cX0_latest : ByteArray := prog_2_method_2_code
def yX0_latest : MethodName := ⟨RX0, "latest", "()J"⟩
abbrev cX0_codeAt : ByteArray := prog_2_method_3_code
def yX0_codeAt : MethodName := ⟨RX0, "codeAt", "(I)I"⟩
abbrev cX0_add : ByteArray := prog_2_method_4_code
def yX0_add : MethodName := ⟨RX0, "add", "(IJ)V"⟩
abbrev cX0_stepBack : ByteArray := prog_2_method_5_code
def yX0_stepBack : MethodName := ⟨RX0, "stepBack", "()Z"⟩
abbrev cX0_stepAgain : ByteArray := prog_2_method_6_code
def yX0_stepAgain : MethodName := ⟨RX0, "stepAgain", "()Z"⟩
abbrev cX0_clear : ByteArray := prog_2_method_7_code
def yX0_clear : MethodName := ⟨RX0, "clear", "()V"⟩
abbrev cX0_copyFrom : ByteArray := prog_2_method_8_code
def yX0_copyFrom : MethodName := ⟨RX0, "copyFrom", "(LSquareCaller$Dance;)V"⟩
abbrev cX0_unlike : ByteArray := prog_2_method_9_code
def yX0_unlike : MethodName := ⟨RX0, "unlike", "(I)I"⟩
abbrev cX0_sameFrom : ByteArray := prog_2_method_10_code
def yX0_sameFrom : MethodName := ⟨RX0, "sameFrom", "(I)I"⟩
def RX1 : String := "SquareCaller$Falls"
def TX1 : u_T := fun k => match k with
  | 0 => ("SquareCaller$Falls", "rows", "[I", true)
  | 1 => ("SquareCaller$Falls", "size", "I", false)
  | _ => ("SquareCaller$Falls", "whyNobody", "I", false)
def tyX1 : Nat → FieldType := fun k => match k with
  | 0 => .array .int
  | 1 => .int
  | _ => .int
theorem nmX1 : ∀ a, a < 3 → ∀ b, b < 3 → a ≠ b → (TX1 a).2.1 ≠ (TX1 b).2.1 := by decide +kernel
theorem tyX1_ok : ∀ k, k < 3 → parseFieldDescriptor (TX1 k).2.2.1 = some (tyX1 k) := by decide +kernel
abbrev cX1_init : ByteArray := prog_3_method_1_code
def yX1_init : MethodName := ⟨RX1, "<init>", "()V"⟩
abbrev cX1_clear : ByteArray := prog_3_method_2_code
def yX1_clear : MethodName := ⟨RX1, "clear", "()V"⟩
abbrev cX1_note : ByteArray := prog_3_method_3_code
def yX1_note : MethodName := ⟨RX1, "note", "(LSquareCaller$Floor;)V"⟩
abbrev cX1_has : ByteArray := prog_3_method_4_code
def yX1_has : MethodName := ⟨RX1, "has", "(I)Z"⟩
def RX2 : String := "SquareCaller$Floor"
def TX2 : u_T := fun k => match k with
  | 0 => ("SquareCaller$Floor", "cells", "[I", true)
  | 1 => ("SquareCaller$Floor", "facings", "[I", true)
  | 2 => ("SquareCaller$Floor", "standing", "[I", true)
  | 3 => ("SquareCaller$Floor", "toCells", "[I", true)
  | 4 => ("SquareCaller$Floor", "toFacings", "[I", true)
  | 5 => ("SquareCaller$Floor", "why", "[I", true)
  | 6 => ("SquareCaller$Floor", "whyNobody", "I", false)
  | _ => ("SquareCaller$Floor", "doers", "I", false)
def tyX2 : Nat → FieldType := fun k => match k with
  | 0 => .array .int
  | 1 => .array .int
  | 2 => .array .int
  | 3 => .array .int
  | 4 => .array .int
  | 5 => .array .int
  | 6 => .int
  | _ => .int
theorem nmX2 : ∀ a, a < 8 → ∀ b, b < 8 → a ≠ b → (TX2 a).2.1 ≠ (TX2 b).2.1 := by decide +kernel
theorem tyX2_ok : ∀ k, k < 8 → parseFieldDescriptor (TX2 k).2.2.1 = some (tyX2 k) := by decide +kernel
abbrev cX2_init : ByteArray := prog_4_method_1_code
def yX2_init : MethodName := ⟨RX2, "<init>", "()V"⟩
abbrev cX2_load : ByteArray := prog_4_method_2_code
def yX2_load : MethodName := ⟨RX2, "load", "(J)V"⟩
abbrev cX2_packed : ByteArray := prog_4_method_3_code
def yX2_packed : MethodName := ⟨RX2, "packed", "()J"⟩
abbrev cX2_planned : ByteArray := prog_4_method_4_code
def yX2_planned : MethodName := ⟨RX2, "planned", "()J"⟩
abbrev cX2_plan : ByteArray := prog_4_method_5_code
def yX2_plan : MethodName := ⟨RX2, "plan", "(I)Z"⟩
abbrev cX2_startPlan : ByteArray := prog_4_method_6_code
def yX2_startPlan : MethodName := ⟨RX2, "startPlan", "()V"⟩
abbrev cX2_planRing : ByteArray := prog_4_method_7_code
def yX2_planRing : MethodName := ⟨RX2, "planRing", "(I)V"⟩
abbrev cX2_isRing : ByteArray := prog_4_method_8_code
def yX2_isRing : MethodName := ⟨RX2, "isRing", "()Z"⟩
abbrev cX2_planEach : ByteArray := prog_4_method_9_code
def yX2_planEach : MethodName := ⟨RX2, "planEach", "(II)V"⟩
abbrev cX2_planPairs : ByteArray := prog_4_method_10_code
def yX2_planPairs : MethodName := ⟨RX2, "planPairs", "(II)V"⟩
abbrev cX2_partnerOf : ByteArray := prog_4_method_11_code
def yX2_partnerOf : MethodName := ⟨RX2, "partnerOf", "(III)I"⟩
abbrev cX2_planFold : ByteArray := prog_4_method_12_code
def yX2_planFold : MethodName := ⟨RX2, "planFold", "(II)V"⟩
abbrev cX2_planChange : ByteArray := prog_4_method_13_code
def yX2_planChange : MethodName := ⟨RX2, "planChange", "(III)V"⟩
abbrev cX2_turn : ByteArray := prog_4_method_14_code
def yX2_turn : MethodName := ⟨RX2, "turn", "(II)V"⟩
abbrev cX2_someFall : ByteArray := prog_4_method_15_code
def yX2_someFall : MethodName := ⟨RX2, "someFall", "()Z"⟩
abbrev cX2_goes : ByteArray := prog_4_method_16_code
def yX2_goes : MethodName := ⟨RX2, "goes", "(I)Z"⟩
abbrev cX2_whyFalls : ByteArray := prog_4_method_17_code
def yX2_whyFalls : MethodName := ⟨RX2, "whyFalls", "(I)I"⟩
abbrev cX2_meantBy : ByteArray := prog_4_method_18_code
def yX2_meantBy : MethodName := ⟨RX2, "meantBy", "(I)I"⟩
abbrev cX2_isMeant : ByteArray := prog_4_method_19_code
def yX2_isMeant : MethodName := ⟨RX2, "isMeant", "(II)Z"⟩
abbrev cX2_facesLike : ByteArray := prog_4_method_20_code
def yX2_facesLike : MethodName := ⟨RX2, "facesLike", "(II)Z"⟩
abbrev cX2_isCenter : ByteArray := prog_4_method_21_code
def yX2_isCenter : MethodName := ⟨RX2, "isCenter", "(I)Z"⟩
abbrev cX2_isIn : ByteArray := prog_4_method_22_code
def yX2_isIn : MethodName := ⟨RX2, "isIn", "(II)Z"⟩
abbrev cX2_beside : ByteArray := prog_4_method_23_code
def yX2_beside : MethodName := ⟨RX2, "beside", "(II)I"⟩
abbrev cX2_neighbour : ByteArray := prog_4_method_24_code
def yX2_neighbour : MethodName := ⟨RX2, "neighbour", "(II)I"⟩
abbrev cX2_atHome : ByteArray := prog_4_method_25_code
def yX2_atHome : MethodName := ⟨RX2, "atHome", "(Z)I"⟩
abbrev cX2_couples : ByteArray := prog_4_method_26_code
def yX2_couples : MethodName := ⟨RX2, "couples", "()I"⟩
abbrev cX2_signOf : ByteArray := prog_4_method_27_code
def yX2_signOf : MethodName := ⟨RX2, "signOf", "(IZ)I"⟩
def RX3 : String := "SquareCaller$Packed"
def TX3 : u_T := fun k => match k with
  | _ => ("", "", "", false)
def tyX3 : Nat → FieldType := fun k => match k with
  | _ => .int
theorem nmX3 : ∀ a, a < 0 → ∀ b, b < 0 → a ≠ b → (TX3 a).2.1 ≠ (TX3 b).2.1 := by decide +kernel
theorem tyX3_ok : ∀ k, k < 0 → parseFieldDescriptor (TX3 k).2.2.1 = some (tyX3 k) := by decide +kernel
abbrev cX3_bits : ByteArray := prog_5_method_2_code
def yX3_bits : MethodName := ⟨RX3, "bits", "(III)J"⟩
abbrev cX3_cellOf : ByteArray := prog_5_method_3_code
def yX3_cellOf : MethodName := ⟨RX3, "cellOf", "(JI)I"⟩
abbrev cX3_facingOf : ByteArray := prog_5_method_4_code
def yX3_facingOf : MethodName := ⟨RX3, "facingOf", "(JI)I"⟩
abbrev cX3_of : ByteArray := prog_5_method_5_code
def yX3_of : MethodName := ⟨RX3, "of", "([I[I)J"⟩
abbrev cX3_atFirst : ByteArray := prog_5_method_6_code
def yX3_atFirst : MethodName := ⟨RX3, "atFirst", "()J"⟩
abbrev cX3_turned : ByteArray := prog_5_method_7_code
def yX3_turned : MethodName := ⟨RX3, "turned", "(JZ)J"⟩
abbrev cX3_least : ByteArray := prog_5_method_8_code
def yX3_least : MethodName := ⟨RX3, "least", "(JZ)J"⟩
abbrev cX3_isAmong : ByteArray := prog_5_method_9_code
def yX3_isAmong : MethodName := ⟨RX3, "isAmong", "(J[JI)Z"⟩
def RX4 : String := "SquareCaller$Print"
def TX4 : u_T := fun k => match k with
  | 0 => ("SquareCaller$Print", "wanted", "I", false)
  | 1 => ("SquareCaller$Print", "found", "I", false)
  | _ => ("SquareCaller$Print", "length", "I", false)
def tyX4 : Nat → FieldType := fun k => match k with
  | 0 => .int
  | 1 => .int
  | _ => .int
theorem nmX4 : ∀ a, a < 3 → ∀ b, b < 3 → a ≠ b → (TX4 a).2.1 ≠ (TX4 b).2.1 := by decide +kernel
theorem tyX4_ok : ∀ k, k < 3 → parseFieldDescriptor (TX4 k).2.2.1 = some (tyX4 k) := by decide +kernel
abbrev cX4_init : ByteArray := prog_6_method_1_code
def yX4_init : MethodName := ⟨RX4, "<init>", "()V"⟩
abbrev cX4_write : ByteArray := prog_6_method_2_code
def yX4_write : MethodName := ⟨RX4, "write", "(LSquareCaller$Dance;I)V"⟩
abbrev cX4_writeCall : ByteArray := prog_6_method_3_code
def yX4_writeCall : MethodName := ⟨RX4, "writeCall", "(II)V"⟩
abbrev cX4_putWord : ByteArray := prog_6_method_4_code
def yX4_putWord : MethodName := ⟨RX4, "putWord", "(Ljava/lang/String;)V"⟩
abbrev cX4_put : ByteArray := prog_6_method_5_code
def yX4_put : MethodName := ⟨RX4, "put", "(I)V"⟩
def RX5 : String := "SquareCaller$Tape"
def TX5 : u_T := fun k => match k with
  | 0 => ("SquareCaller$Tape", "bytes", "[I", true)
  | 1 => ("SquareCaller$Tape", "length", "I", false)
  | 2 => ("SquareCaller$Tape", "codes", "[I", true)
  | _ => ("SquareCaller$Tape", "callCount", "I", false)
def tyX5 : Nat → FieldType := fun k => match k with
  | 0 => .array .int
  | 1 => .int
  | 2 => .array .int
  | _ => .int
theorem nmX5 : ∀ a, a < 4 → ∀ b, b < 4 → a ≠ b → (TX5 a).2.1 ≠ (TX5 b).2.1 := by decide +kernel
theorem tyX5_ok : ∀ k, k < 4 → parseFieldDescriptor (TX5 k).2.2.1 = some (tyX5 k) := by decide +kernel
abbrev cX5_init : ByteArray := prog_7_method_1_code
def yX5_init : MethodName := ⟨RX5, "<init>", "()V"⟩
abbrev cX5_put : ByteArray := prog_7_method_2_code
def yX5_put : MethodName := ⟨RX5, "put", "(I)Z"⟩
abbrev cX5_take : ByteArray := prog_7_method_3_code
def yX5_take : MethodName := ⟨RX5, "take", "()I"⟩
abbrev cX5_codeAt : ByteArray := prog_7_method_4_code
def yX5_codeAt : MethodName := ⟨RX5, "codeAt", "(I)I"⟩
abbrev cX5_readText : ByteArray := prog_7_method_5_code
def yX5_readText : MethodName := ⟨RX5, "readText", "()I"⟩
abbrev cX5_readCall : ByteArray := prog_7_method_6_code
def yX5_readCall : MethodName := ⟨RX5, "readCall", "(I)I"⟩
abbrev cX5_addCalls : ByteArray := prog_7_method_7_code
def yX5_addCalls : MethodName := ⟨RX5, "addCalls", "(II)V"⟩
abbrev cX5_byteAt : ByteArray := prog_7_method_8_code
def yX5_byteAt : MethodName := ⟨RX5, "byteAt", "(I)I"⟩
abbrev cX5_wordEnd : ByteArray := prog_7_method_9_code
def yX5_wordEnd : MethodName := ⟨RX5, "wordEnd", "(I)I"⟩
abbrev cX5_whoIn : ByteArray := prog_7_method_10_code
def yX5_whoIn : MethodName := ⟨RX5, "whoIn", "(II)I"⟩
abbrev cX5_figureIn : ByteArray := prog_7_method_11_code
def yX5_figureIn : MethodName := ⟨RX5, "figureIn", "(II)I"⟩
abbrev cX5_isWord : ByteArray := prog_7_method_12_code
def yX5_isWord : MethodName := ⟨RX5, "isWord", "(Ljava/lang/String;II)Z"⟩
def RX6 : String := "SquareCaller$WayHome"
def TX6 : u_T := fun k => match k with
  | 0 => ("SquareCaller$WayHome", "floor", "LSquareCaller$Floor;", true)
  | 1 => ("SquareCaller$WayHome", "home", "J", true)
  | 2 => ("SquareCaller$WayHome", "reached", "[J", true)
  | 3 => ("SquareCaller$WayHome", "cameFrom", "[I", true)
  | 4 => ("SquareCaller$WayHome", "cameBy", "[I", true)
  | 5 => ("SquareCaller$WayHome", "size", "I", false)
  | 6 => ("SquareCaller$WayHome", "codes", "[I", true)
  | 7 => ("SquareCaller$WayHome", "start", "J", false)
  | _ => ("SquareCaller$WayHome", "answer", "I", false)
def tyX6 : Nat → FieldType := fun k => match k with
  | 0 => .object "SquareCaller$Floor"
  | 1 => .long
  | 2 => .array .long
  | 3 => .array .int
  | 4 => .array .int
  | 5 => .int
  | 6 => .array .int
  | 7 => .long
  | _ => .int
theorem nmX6 : ∀ a, a < 9 → ∀ b, b < 9 → a ≠ b → (TX6 a).2.1 ≠ (TX6 b).2.1 := by decide +kernel
theorem tyX6_ok : ∀ k, k < 9 → parseFieldDescriptor (TX6 k).2.2.1 = some (tyX6 k) := by decide +kernel
abbrev cX6_init : ByteArray := prog_8_method_1_code
def yX6_init : MethodName := ⟨RX6, "<init>", "(LSquareCaller$Floor;)V"⟩
abbrev cX6_codeAt : ByteArray := prog_8_method_2_code
def yX6_codeAt : MethodName := ⟨RX6, "codeAt", "(I)I"⟩
abbrev cX6_search : ByteArray := prog_8_method_3_code
def yX6_search : MethodName := ⟨RX6, "search", "(J)V"⟩
abbrev cX6_comeTo : ByteArray := prog_8_method_4_code
def yX6_comeTo : MethodName := ⟨RX6, "comeTo", "(JII)V"⟩
abbrev cX6_add : ByteArray := prog_8_method_5_code
def yX6_add : MethodName := ⟨RX6, "add", "(JII)Z"⟩
abbrev cX6_trace : ByteArray := prog_8_method_6_code
def yX6_trace : MethodName := ⟨RX6, "trace", "(II)I"⟩
def RX7 : String := "SquareCaller$Words"
def TX7 : u_T := fun k => match k with
  | _ => ("", "", "", false)
def tyX7 : Nat → FieldType := fun k => match k with
  | _ => .int
theorem nmX7 : ∀ a, a < 0 → ∀ b, b < 0 → a ≠ b → (TX7 a).2.1 ≠ (TX7 b).2.1 := by decide +kernel
theorem tyX7_ok : ∀ k, k < 0 → parseFieldDescriptor (TX7 k).2.2.1 = some (tyX7 k) := by decide +kernel
abbrev cX7_ofWho : ByteArray := prog_9_method_2_code
def yX7_ofWho : MethodName := ⟨RX7, "ofWho", "(I)Ljava/lang/String;"⟩
abbrev cX7_ofFigure : ByteArray := prog_9_method_3_code
def yX7_ofFigure : MethodName := ⟨RX7, "ofFigure", "(I)Ljava/lang/String;"⟩
def RX8 : String := "SquareCaller"
def TX8 : u_T := fun k => match k with
  | 0 => ("SquareCaller", "tape", "LSquareCaller$Tape;", true)
  | 1 => ("SquareCaller", "floor", "LSquareCaller$Floor;", true)
  | 2 => ("SquareCaller", "current", "LSquareCaller$Dance;", true)
  | 3 => ("SquareCaller", "kept", "LSquareCaller$Dance;", true)
  | 4 => ("SquareCaller", "isKept", "Z", false)
  | 5 => ("SquareCaller", "latestFalls", "LSquareCaller$Falls;", true)
  | 6 => ("SquareCaller", "wayHome", "LSquareCaller$WayHome;", true)
  | 7 => ("SquareCaller", "print", "LSquareCaller$Print;", true)
  | _ => ("SquareCaller", "tally", "[I", true)
def tyX8 : Nat → FieldType := fun k => match k with
  | 0 => .object "SquareCaller$Tape"
  | 1 => .object "SquareCaller$Floor"
  | 2 => .object "SquareCaller$Dance"
  | 3 => .object "SquareCaller$Dance"
  | 4 => .boolean
  | 5 => .object "SquareCaller$Falls"
  | 6 => .object "SquareCaller$WayHome"
  | 7 => .object "SquareCaller$Print"
  | _ => .array .int
theorem nmX8 : ∀ a, a < 9 → ∀ b, b < 9 → a ≠ b → (TX8 a).2.1 ≠ (TX8 b).2.1 := by decide +kernel
theorem tyX8_ok : ∀ k, k < 9 → parseFieldDescriptor (TX8 k).2.2.1 = some (tyX8 k) := by decide +kernel
abbrev cX8_init : ByteArray := prog_1_method_1_code
def yX8_init : MethodName := ⟨RX8, "<init>", "()V"⟩
abbrev cX8_feed : ByteArray := prog_1_method_2_code
def yX8_feed : MethodName := ⟨RX8, "feed", "(I)I"⟩
abbrev cX8_dance : ByteArray := prog_1_method_3_code
def yX8_dance : MethodName := ⟨RX8, "dance", "()I"⟩
abbrev cX8_fall : ByteArray := prog_1_method_4_code
def yX8_fall : MethodName := ⟨RX8, "fall", "(I)I"⟩
abbrev cX8_would : ByteArray := prog_1_method_5_code
def yX8_would : MethodName := ⟨RX8, "would", "()I"⟩
abbrev cX8_undo : ByteArray := prog_1_method_6_code
def yX8_undo : MethodName := ⟨RX8, "undo", "()I"⟩
abbrev cX8_redo : ByteArray := prog_1_method_7_code
def yX8_redo : MethodName := ⟨RX8, "redo", "()I"⟩
abbrev cX8_home : ByteArray := prog_1_method_8_code
def yX8_home : MethodName := ⟨RX8, "home", "()I"⟩
abbrev cX8_at : ByteArray := prog_1_method_9_code
def yX8_at : MethodName := ⟨RX8, "at", "(II)I"⟩
abbrev cX8_on : ByteArray := prog_1_method_10_code
def yX8_on : MethodName := ⟨RX8, "on", "(I)I"⟩
abbrev cX8_meant : ByteArray := prog_1_method_11_code
def yX8_meant : MethodName := ⟨RX8, "meant", "(I)I"⟩
abbrev cX8_count : ByteArray := prog_1_method_12_code
def yX8_count : MethodName := ⟨RX8, "count", "(I)I"⟩
abbrev cX8_way : ByteArray := prog_1_method_13_code
def yX8_way : MethodName := ⟨RX8, "way", "(I)I"⟩
abbrev cX8_round : ByteArray := prog_1_method_14_code
def yX8_round : MethodName := ⟨RX8, "round", "()I"⟩
abbrev cX8_alike : ByteArray := prog_1_method_15_code
def yX8_alike : MethodName := ⟨RX8, "alike", "(I)I"⟩
abbrev cX8_squares : ByteArray := prog_1_method_16_code
def yX8_squares : MethodName := ⟨RX8, "squares", "(I)I"⟩
abbrev cX8_text : ByteArray := prog_1_method_17_code
def yX8_text : MethodName := ⟨RX8, "text", "(I)I"⟩
abbrev cX8_picture : ByteArray := prog_1_method_18_code
def yX8_picture : MethodName := ⟨RX8, "picture", "(I)I"⟩
abbrev cX8_call : ByteArray := prog_1_method_19_code
def yX8_call : MethodName := ⟨RX8, "call", "(I)I"⟩
abbrev cX8_danced : ByteArray := prog_1_method_20_code
def yX8_danced : MethodName := ⟨RX8, "danced", "(I)I"⟩
abbrev cX8_image : ByteArray := prog_1_method_21_code
def yX8_image : MethodName := ⟨RX8, "image", "()I"⟩
abbrev cX8_back : ByteArray := prog_1_method_22_code
def yX8_back : MethodName := ⟨RX8, "back", "()I"⟩
abbrev cX8_orNot : ByteArray := prog_1_method_23_code
def yX8_orNot : MethodName := ⟨RX8, "orNot", "(I)I"⟩
abbrev cX8_tallyFigure : ByteArray := prog_1_method_24_code
def yX8_tallyFigure : MethodName := ⟨RX8, "tallyFigure", "(I)V"⟩
abbrev cX8_danceInThought : ByteArray := prog_1_method_25_code
def yX8_danceInThought : MethodName := ⟨RX8, "danceInThought", "()Z"⟩
def RX9 : String := "SquareCallerModel"
def TX9 : u_T := fun k => match k with
  | 0 => ("SquareCallerModel", "whos", "[Ljava/lang/String;", true)
  | 1 => ("SquareCallerModel", "figures", "[Ljava/lang/String;", true)
  | 2 => ("SquareCallerModel", "cell", "[I", true)
  | 3 => ("SquareCallerModel", "face", "[I", true)
  | 4 => ("SquareCallerModel", "on", "[I", true)
  | 5 => ("SquareCallerModel", "to", "[I", true)
  | 6 => ("SquareCallerModel", "turned", "[I", true)
  | 7 => ("SquareCallerModel", "mate", "[I", true)
  | 8 => ("SquareCallerModel", "goes", "[Z", true)
  | 9 => ("SquareCallerModel", "pairs", "I", false)
  | 10 => ("SquareCallerModel", "wrong", "I", false)
  | 11 => ("SquareCallerModel", "why", "[I", true)
  | 12 => ("SquareCallerModel", "falls", "[I", true)
  | 13 => ("SquareCallerModel", "fallen", "I", false)
  | 14 => ("SquareCallerModel", "fallenAll", "I", false)
  | 15 => ("SquareCallerModel", "went", "[J", true)
  | 16 => ("SquareCallerModel", "keptWent", "[J", true)
  | 17 => ("SquareCallerModel", "call", "[I", true)
  | 18 => ("SquareCallerModel", "keptCall", "[I", true)
  | 19 => ("SquareCallerModel", "danced", "[I", true)
  | 20 => ("SquareCallerModel", "many", "I", false)
  | 21 => ("SquareCallerModel", "undone", "I", false)
  | 22 => ("SquareCallerModel", "keptMany", "I", false)
  | 23 => ("SquareCallerModel", "tape", "[I", true)
  | 24 => ("SquareCallerModel", "read", "[I", true)
  | 25 => ("SquareCallerModel", "letters", "I", false)
  | 26 => ("SquareCallerModel", "reads", "I", false)
  | 27 => ("SquareCallerModel", "at", "I", false)
  | 28 => ("SquareCallerModel", "fault", "I", false)
  | 29 => ("SquareCallerModel", "come", "[J", true)
  | 30 => ("SquareCallerModel", "from", "[I", true)
  | 31 => ("SquareCallerModel", "by", "[I", true)
  | 32 => ("SquareCallerModel", "way", "[I", true)
  | 33 => ("SquareCallerModel", "printed", "[I", true)
  | _ => ("SquareCallerModel", "bytes", "I", false)
def tyX9 : Nat → FieldType := fun k => match k with
  | 0 => .array (.object "java/lang/String")
  | 1 => .array (.object "java/lang/String")
  | 2 => .array .int
  | 3 => .array .int
  | 4 => .array .int
  | 5 => .array .int
  | 6 => .array .int
  | 7 => .array .int
  | 8 => .array .boolean
  | 9 => .int
  | 10 => .int
  | 11 => .array .int
  | 12 => .array .int
  | 13 => .int
  | 14 => .int
  | 15 => .array .long
  | 16 => .array .long
  | 17 => .array .int
  | 18 => .array .int
  | 19 => .array .int
  | 20 => .int
  | 21 => .int
  | 22 => .int
  | 23 => .array .int
  | 24 => .array .int
  | 25 => .int
  | 26 => .int
  | 27 => .int
  | 28 => .int
  | 29 => .array .long
  | 30 => .array .int
  | 31 => .array .int
  | 32 => .array .int
  | 33 => .array .int
  | _ => .int
theorem nmX9 : ∀ a, a < 35 → ∀ b, b < 35 → a ≠ b → (TX9 a).2.1 ≠ (TX9 b).2.1 := by decide +kernel
theorem tyX9_ok : ∀ k, k < 35 → parseFieldDescriptor (TX9 k).2.2.1 = some (tyX9 k) := by decide +kernel
abbrev cX9_init : ByteArray := prog_11_method_1_code
def yX9_init : MethodName := ⟨RX9, "<init>", "()V"⟩
abbrev cX9_isIn : ByteArray := prog_11_method_2_code
def yX9_isIn : MethodName := ⟨RX9, "isIn", "(III)Z"⟩
abbrev cX9_has : ByteArray := prog_11_method_3_code
def yX9_has : MethodName := ⟨RX9, "has", "(II)Z"⟩
abbrev cX9_code : ByteArray := prog_11_method_4_code
def yX9_code : MethodName := ⟨RX9, "code", "()J"⟩
abbrev cX9_looks : ByteArray := prog_11_method_5_code
def yX9_looks : MethodName := ⟨RX9, "looks", "(J)V"⟩
abbrev cX9_looksNow : ByteArray := prog_11_method_6_code
def yX9_looksNow : MethodName := ⟨RX9, "looksNow", "()V"⟩
abbrev cX9_next : ByteArray := prog_11_method_7_code
def yX9_next : MethodName := ⟨RX9, "next", "(II)I"⟩
abbrev cX9_beside : ByteArray := prog_11_method_8_code
def yX9_beside : MethodName := ⟨RX9, "beside", "(II)I"⟩
abbrev cX9_isMeant : ByteArray := prog_11_method_9_code
def yX9_isMeant : MethodName := ⟨RX9, "isMeant", "(II)Z"⟩
abbrev cX9_meantBy : ByteArray := prog_11_method_10_code
def yX9_meantBy : MethodName := ⟨RX9, "meantBy", "(I)I"⟩
abbrev cX9_turns : ByteArray := prog_11_method_11_code
def yX9_turns : MethodName := ⟨RX9, "turns", "(II)V"⟩
abbrev cX9_goesTo : ByteArray := prog_11_method_12_code
def yX9_goesTo : MethodName := ⟨RX9, "goesTo", "(II)V"⟩
abbrev cX9_mayPair : ByteArray := prog_11_method_13_code
def yX9_mayPair : MethodName := ⟨RX9, "mayPair", "(IIII)Z"⟩
abbrev cX9_mateOf : ByteArray := prog_11_method_14_code
def yX9_mateOf : MethodName := ⟨RX9, "mateOf", "(III)I"⟩
abbrev cX9_folds : ByteArray := prog_11_method_15_code
def yX9_folds : MethodName := ⟨RX9, "folds", "(II)V"⟩
abbrev cX9_pairs : ByteArray := prog_11_method_16_code
def yX9_pairs : MethodName := ⟨RX9, "pairs", "(II)V"⟩
abbrev cX9_placeOf : ByteArray := prog_11_method_17_code
def yX9_placeOf : MethodName := ⟨RX9, "placeOf", "(I)I"⟩
abbrev cX9_rings : ByteArray := prog_11_method_18_code
def yX9_rings : MethodName := ⟨RX9, "rings", "(I)V"⟩
abbrev cX9_fallOf : ByteArray := prog_11_method_19_code
def yX9_fallOf : MethodName := ⟨RX9, "fallOf", "(I)I"⟩
abbrev cX9_tries : ByteArray := prog_11_method_20_code
def yX9_tries : MethodName := ⟨RX9, "tries", "(II)Z"⟩
abbrev cX9_made : ByteArray := prog_11_method_21_code
def yX9_made : MethodName := ⟨RX9, "made", "()J"⟩
abbrev cX9_feed : ByteArray := prog_11_method_22_code
def yX9_feed : MethodName := ⟨RX9, "feed", "(I)I"⟩
abbrev cX9_wordFrom : ByteArray := prog_11_method_23_code
def yX9_wordFrom : MethodName := ⟨RX9, "wordFrom", "(I)I"⟩
abbrev cX9_find : ByteArray := prog_11_method_24_code
def yX9_find : MethodName := ⟨RX9, "find", "([Ljava/lang/String;I)I"⟩
abbrev cX9_fails : ByteArray := prog_11_method_25_code
def yX9_fails : MethodName := ⟨RX9, "fails", "(I)V"⟩
abbrev cX9_sees : ByteArray := prog_11_method_26_code
def yX9_sees : MethodName := ⟨RX9, "sees", "(I)Z"⟩
abbrev cX9_reads : ByteArray := prog_11_method_27_code
def yX9_reads : MethodName := ⟨RX9, "reads", "()V"⟩
abbrev cX9_isText : ByteArray := prog_11_method_28_code
def yX9_isText : MethodName := ⟨RX9, "isText", "()Z"⟩
abbrev cX9_dances : ByteArray := prog_11_method_29_code
def yX9_dances : MethodName := ⟨RX9, "dances", "(I)V"⟩
abbrev cX9_dance : ByteArray := prog_11_method_30_code
def yX9_dance : MethodName := ⟨RX9, "dance", "()I"⟩
abbrev cX9_fall : ByteArray := prog_11_method_31_code
def yX9_fall : MethodName := ⟨RX9, "fall", "(I)I"⟩
abbrev cX9_would : ByteArray := prog_11_method_32_code
def yX9_would : MethodName := ⟨RX9, "would", "()I"⟩
abbrev cX9_undo : ByteArray := prog_11_method_33_code
def yX9_undo : MethodName := ⟨RX9, "undo", "()I"⟩
abbrev cX9_redo : ByteArray := prog_11_method_34_code
def yX9_redo : MethodName := ⟨RX9, "redo", "()I"⟩
abbrev cX9_home : ByteArray := prog_11_method_35_code
def yX9_home : MethodName := ⟨RX9, "home", "()I"⟩
abbrev cX9_at : ByteArray := prog_11_method_36_code
def yX9_at : MethodName := ⟨RX9, "at", "(II)I"⟩
abbrev cX9_on : ByteArray := prog_11_method_37_code
def yX9_on : MethodName := ⟨RX9, "on", "(I)I"⟩
abbrev cX9_meant : ByteArray := prog_11_method_38_code
def yX9_meant : MethodName := ⟨RX9, "meant", "(I)I"⟩
abbrev cX9_count : ByteArray := prog_11_method_39_code
def yX9_count : MethodName := ⟨RX9, "count", "(I)I"⟩
abbrev cX9_searches : ByteArray := prog_11_method_40_code
def yX9_searches : MethodName := ⟨RX9, "searches", "()I"⟩
abbrev cX9_way : ByteArray := prog_11_method_41_code
def yX9_way : MethodName := ⟨RX9, "way", "(I)I"⟩
abbrev cX9_round : ByteArray := prog_11_method_42_code
def yX9_round : MethodName := ⟨RX9, "round", "()I"⟩
abbrev cX9_quarter : ByteArray := prog_11_method_43_code
def yX9_quarter : MethodName := ⟨RX9, "quarter", "(JZ)J"⟩
abbrev cX9_quarters : ByteArray := prog_11_method_44_code
def yX9_quarters : MethodName := ⟨RX9, "quarters", "(JJZ)I"⟩
abbrev cX9_alike : ByteArray := prog_11_method_45_code
def yX9_alike : MethodName := ⟨RX9, "alike", "(I)I"⟩
abbrev cX9_squares : ByteArray := prog_11_method_46_code
def yX9_squares : MethodName := ⟨RX9, "squares", "(I)I"⟩
abbrev cX9_prints : ByteArray := prog_11_method_47_code
def yX9_prints : MethodName := ⟨RX9, "prints", "(I)V"⟩
abbrev cX9_prints_ : ByteArray := prog_11_method_48_code
def yX9_prints_ : MethodName := ⟨RX9, "prints", "(Ljava/lang/String;)V"⟩
abbrev cX9_text : ByteArray := prog_11_method_49_code
def yX9_text : MethodName := ⟨RX9, "text", "(I)I"⟩
abbrev cX9_picture : ByteArray := prog_11_method_50_code
def yX9_picture : MethodName := ⟨RX9, "picture", "(I)I"⟩
abbrev cX9_call : ByteArray := prog_11_method_51_code
def yX9_call : MethodName := ⟨RX9, "call", "(I)I"⟩
abbrev cX9_danced : ByteArray := prog_11_method_52_code
def yX9_danced : MethodName := ⟨RX9, "danced", "(I)I"⟩
abbrev cX9_image : ByteArray := prog_11_method_53_code
def yX9_image : MethodName := ⟨RX9, "image", "()I"⟩
abbrev cX9_back : ByteArray := prog_11_method_54_code
def yX9_back : MethodName := ⟨RX9, "back", "()I"⟩
def RJ9 : String := "java/lang/Math"
abbrev cJ9_max_7cf53 : ByteArray := prog_12_method_65_code
def yJ9_max_7cf53 : MethodName := ⟨RJ9, "max", "(II)I"⟩
abbrev cJ9_min_f86c9 : ByteArray := prog_12_method_70_code
def yJ9_min_f86c9 : MethodName := ⟨RJ9, "min", "(JJ)J"⟩
def RJ0 : String := "java/lang/String"
abbrev cJ0_length_8abf5 : ByteArray := prog_13_method_54_code
def yJ0_length_8abf5 : MethodName := ⟨RJ0, "length", "()I"⟩
abbrev cJ0_charAt_5068e : ByteArray := prog_13_method_56_code
def yJ0_charAt_5068e : MethodName := ⟨RJ0, "charAt", "(I)C"⟩
abbrev cJ0_coder_7d493 : ByteArray := prog_13_method_152_code
def yJ0_coder_7d493 : MethodName := ⟨RJ0, "coder", "()B"⟩
abbrev cJ0_isLatin1_aae02 : ByteArray := prog_13_method_154_code
def yJ0_isLatin1_aae02 : MethodName := ⟨RJ0, "isLatin1", "()Z"⟩
abbrev cJ0_checkIndex_df160 : ByteArray := prog_13_method_155_code
def yJ0_checkIndex_df160 : MethodName := ⟨RJ0, "checkIndex", "(II)V"⟩
def RJ1 : String := "java/lang/StringLatin1"
abbrev cJ1_charAt_3b067 : ByteArray := prog_14_method_2_code
def yJ1_charAt_3b067 : MethodName := ⟨RJ1, "charAt", "([BI)C"⟩
def RJ2 : String := "java/lang/StringUTF16"
abbrev cJ2_getChar_3b067 : ByteArray := prog_15_method_5_code
def yJ2_getChar_3b067 : MethodName := ⟨RJ2, "getChar", "([BI)C"⟩
abbrev cJ2_length_9d52b : ByteArray := prog_15_method_6_code
def yJ2_length_9d52b : MethodName := ⟨RJ2, "length", "([B)I"⟩
abbrev cJ2_charAt_3b067 : ByteArray := prog_15_method_83_code
def yJ2_charAt_3b067 : MethodName := ⟨RJ2, "charAt", "([BI)C"⟩
abbrev cJ2_checkIndex_2214a : ByteArray := prog_15_method_91_code
def yJ2_checkIndex_2214a : MethodName := ⟨RJ2, "checkIndex", "(I[B)V"⟩
def RJ10 : String := "java/lang/System"
def RJ3 : String := "jdk/internal/util/Preconditions"
abbrev cJ3_checkIndex_8e157 : ByteArray := prog_17_method_11_code
def yJ3_checkIndex_8e157 : MethodName := ⟨RJ3, "checkIndex", "(IILjava/util/function/BiFunction;)I"⟩
def RL : String := "SquareCallerLaw"
abbrev cL_law : ByteArray := code
def yL_law : MethodName := ⟨RL, "law", "([I)Z"⟩
abbrev vwCl : List vw_C := [(RX0, TX0, 5), (RX1, TX1, 3), (RX2, TX2, 8), (RX4, TX4, 3), (RX5, TX5, 4), (RX6, TX6, 9), (RX8, TX8, 9), (RX9, TX9, 35)]
abbrev MI : Type := MethodName × ByteArray × Nat × Option FieldType
abbrev mX3_bits : MI := (yX3_bits, cX3_bits, 3, (some .long))
abbrev mX3_of : MI := (yX3_of, cX3_of, 5, (some .long))
abbrev mX3_atFirst : MI := (yX3_atFirst, cX3_atFirst, 0, (some .long))
abbrev mX0_init : MI := (yX0_init, cX0_init, 1, none)
abbrev mX0_latest : MI := (yX0_latest, cX0_latest, 1, (some .long))
abbrev mX0_codeAt : MI := (yX0_codeAt, cX0_codeAt, 2, (some .int))
abbrev mX0_add : MI := (yX0_add, cX0_add, 4, none)
abbrev mX0_stepBack : MI := (yX0_stepBack, cX0_stepBack, 1, (some .boolean))
abbrev mX0_stepAgain : MI := (yX0_stepAgain, cX0_stepAgain, 1, (some .boolean))
abbrev mX0_clear : MI := (yX0_clear, cX0_clear, 1, none)
abbrev mX0_copyFrom : MI := (yX0_copyFrom, cX0_copyFrom, 2, none)
abbrev mX3_cellOf : MI := (yX3_cellOf, cX3_cellOf, 3, (some .int))
abbrev mX3_facingOf : MI := (yX3_facingOf, cX3_facingOf, 3, (some .int))
abbrev mX3_turned : MI := (yX3_turned, cX3_turned, 10, (some .long))
abbrev mX3_least : MI := (yX3_least, cX3_least, 8, (some .long))
abbrev mX3_isAmong : MI := (yX3_isAmong, cX3_isAmong, 5, (some .boolean))
abbrev mX0_unlike : MI := (yX0_unlike, cX0_unlike, 6, (some .int))
abbrev mX0_sameFrom : MI := (yX0_sameFrom, cX0_sameFrom, 3, (some .int))
abbrev mX1_init : MI := (yX1_init, cX1_init, 1, none)
abbrev mX1_clear : MI := (yX1_clear, cX1_clear, 1, none)
abbrev mX1_note : MI := (yX1_note, cX1_note, 3, none)
abbrev mX1_has : MI := (yX1_has, cX1_has, 2, (some .boolean))
abbrev mX2_init : MI := (yX2_init, cX2_init, 1, none)
abbrev mX2_load : MI := (yX2_load, cX2_load, 5, none)
abbrev mX2_packed : MI := (yX2_packed, cX2_packed, 1, (some .long))
abbrev mX2_planned : MI := (yX2_planned, cX2_planned, 1, (some .long))
abbrev mX2_isCenter : MI := (yX2_isCenter, cX2_isCenter, 3, (some .boolean))
abbrev mX2_neighbour : MI := (yX2_neighbour, cX2_neighbour, 5, (some .int))
abbrev mX2_beside : MI := (yX2_beside, cX2_beside, 4, (some .int))
abbrev mX2_facesLike : MI := (yX2_facesLike, cX2_facesLike, 3, (some .boolean))
abbrev mX2_isMeant : MI := (yX2_isMeant, cX2_isMeant, 3, (some .boolean))
abbrev mX2_meantBy : MI := (yX2_meantBy, cX2_meantBy, 4, (some .int))
abbrev mX2_startPlan : MI := (yX2_startPlan, cX2_startPlan, 2, none)
abbrev mX2_isRing : MI := (yX2_isRing, cX2_isRing, 2, (some .boolean))
abbrev mX2_planRing : MI := (yX2_planRing, cX2_planRing, 5, none)
abbrev mX2_isIn : MI := (yX2_isIn, cX2_isIn, 2, (some .boolean))
abbrev mX2_turn : MI := (yX2_turn, cX2_turn, 3, none)
abbrev mX2_planEach : MI := (yX2_planEach, cX2_planEach, 4, none)
abbrev mX2_partnerOf : MI := (yX2_partnerOf, cX2_partnerOf, 6, (some .int))
abbrev mX2_planFold : MI := (yX2_planFold, cX2_planFold, 6, none)
abbrev mX2_planChange : MI := (yX2_planChange, cX2_planChange, 4, none)
abbrev mX2_planPairs : MI := (yX2_planPairs, cX2_planPairs, 6, none)
abbrev mX2_goes : MI := (yX2_goes, cX2_goes, 2, (some .boolean))
abbrev mX2_whyFalls : MI := (yX2_whyFalls, cX2_whyFalls, 5, (some .int))
abbrev mX2_someFall : MI := (yX2_someFall, cX2_someFall, 3, (some .boolean))
abbrev mX2_plan : MI := (yX2_plan, cX2_plan, 5, (some .boolean))
abbrev mX2_atHome : MI := (yX2_atHome, cX2_atHome, 4, (some .int))
abbrev mX2_couples : MI := (yX2_couples, cX2_couples, 4, (some .int))
abbrev mX2_signOf : MI := (yX2_signOf, cX2_signOf, 4, (some .int))
abbrev mX4_init : MI := (yX4_init, cX4_init, 1, none)
abbrev mX4_put : MI := (yX4_put, cX4_put, 2, none)
abbrev mX4_putWord : MI := (yX4_putWord, cX4_putWord, 3, none)
abbrev mX4_writeCall : MI := (yX4_writeCall, cX4_writeCall, 4, none)
abbrev mX4_write : MI := (yX4_write, cX4_write, 5, none)
abbrev mX5_init : MI := (yX5_init, cX5_init, 1, none)
abbrev mX5_put : MI := (yX5_put, cX5_put, 2, (some .boolean))
abbrev mX5_byteAt : MI := (yX5_byteAt, cX5_byteAt, 2, (some .int))
abbrev mX5_wordEnd : MI := (yX5_wordEnd, cX5_wordEnd, 3, (some .int))
abbrev mX5_isWord : MI := (yX5_isWord, cX5_isWord, 5, (some .boolean))
abbrev mX5_figureIn : MI := (yX5_figureIn, cX5_figureIn, 4, (some .int))
abbrev mX5_whoIn : MI := (yX5_whoIn, cX5_whoIn, 4, (some .int))
abbrev mX5_addCalls : MI := (yX5_addCalls, cX5_addCalls, 4, none)
abbrev mX5_readCall : MI := (yX5_readCall, cX5_readCall, 7, (some .int))
abbrev mX5_readText : MI := (yX5_readText, cX5_readText, 4, (some .int))
abbrev mX5_take : MI := (yX5_take, cX5_take, 2, (some .int))
abbrev mX5_codeAt : MI := (yX5_codeAt, cX5_codeAt, 2, (some .int))
abbrev mX6_init : MI := (yX6_init, cX6_init, 2, none)
abbrev mX6_codeAt : MI := (yX6_codeAt, cX6_codeAt, 2, (some .int))
abbrev mX6_add : MI := (yX6_add, cX6_add, 5, (some .boolean))
abbrev mX6_trace : MI := (yX6_trace, cX6_trace, 6, (some .int))
abbrev mX6_comeTo : MI := (yX6_comeTo, cX6_comeTo, 5, none)
abbrev mX6_search : MI := (yX6_search, cX6_search, 6, none)
abbrev mX8_init : MI := (yX8_init, cX8_init, 1, none)
abbrev mX8_feed : MI := (yX8_feed, cX8_feed, 2, (some .int))
abbrev mX8_tallyFigure : MI := (yX8_tallyFigure, cX8_tallyFigure, 3, none)
abbrev mX8_dance : MI := (yX8_dance, cX8_dance, 4, (some .int))
abbrev mX8_fall : MI := (yX8_fall, cX8_fall, 2, (some .int))
abbrev mX8_would : MI := (yX8_would, cX8_would, 2, (some .int))
abbrev mX8_undo : MI := (yX8_undo, cX8_undo, 1, (some .int))
abbrev mX8_redo : MI := (yX8_redo, cX8_redo, 1, (some .int))
abbrev mX8_home : MI := (yX8_home, cX8_home, 2, (some .int))
abbrev mX8_orNot : MI := (yX8_orNot, cX8_orNot, 1, (some .int))
abbrev mX8_at : MI := (yX8_at, cX8_at, 3, (some .int))
abbrev mX8_on : MI := (yX8_on, cX8_on, 2, (some .int))
abbrev mX8_meant : MI := (yX8_meant, cX8_meant, 2, (some .int))
abbrev mX8_count : MI := (yX8_count, cX8_count, 2, (some .int))
abbrev mX8_way : MI := (yX8_way, cX8_way, 2, (some .int))
abbrev mX8_danceInThought : MI := (yX8_danceInThought, cX8_danceInThought, 2, (some .boolean))
abbrev mX8_round : MI := (yX8_round, cX8_round, 5, (some .int))
abbrev mX8_alike : MI := (yX8_alike, cX8_alike, 7, (some .int))
abbrev mX8_squares : MI := (yX8_squares, cX8_squares, 2, (some .int))
abbrev mX8_text : MI := (yX8_text, cX8_text, 2, (some .int))
abbrev mX8_picture : MI := (yX8_picture, cX8_picture, 4, (some .int))
abbrev mX8_call : MI := (yX8_call, cX8_call, 2, (some .int))
abbrev mX8_danced : MI := (yX8_danced, cX8_danced, 2, (some .int))
abbrev mX8_image : MI := (yX8_image, cX8_image, 1, (some .int))
abbrev mX8_back : MI := (yX8_back, cX8_back, 1, (some .int))
abbrev mX9_code : MI := (yX9_code, cX9_code, 4, (some .long))
abbrev mX9_looks : MI := (yX9_looks, cX9_looks, 5, none)
abbrev mX9_init : MI := (yX9_init, cX9_init, 2, none)
abbrev mX9_isIn : MI := (yX9_isIn, cX9_isIn, 3, (some .boolean))
abbrev mX9_has : MI := (yX9_has, cX9_has, 2, (some .boolean))
abbrev mX9_looksNow : MI := (yX9_looksNow, cX9_looksNow, 1, none)
abbrev mX9_next : MI := (yX9_next, cX9_next, 4, (some .int))
abbrev mX9_beside : MI := (yX9_beside, cX9_beside, 4, (some .int))
abbrev mX9_isMeant : MI := (yX9_isMeant, cX9_isMeant, 4, (some .boolean))
abbrev mX9_meantBy : MI := (yX9_meantBy, cX9_meantBy, 4, (some .int))
abbrev mX9_turns : MI := (yX9_turns, cX9_turns, 3, none)
abbrev mX9_goesTo : MI := (yX9_goesTo, cX9_goesTo, 3, none)
abbrev mX9_mayPair : MI := (yX9_mayPair, cX9_mayPair, 5, (some .boolean))
abbrev mX9_mateOf : MI := (yX9_mateOf, cX9_mateOf, 4, (some .int))
abbrev mX9_folds : MI := (yX9_folds, cX9_folds, 5, none)
abbrev mX9_pairs : MI := (yX9_pairs, cX9_pairs, 5, none)
abbrev mX9_placeOf : MI := (yX9_placeOf, cX9_placeOf, 2, (some .int))
abbrev mX9_rings : MI := (yX9_rings, cX9_rings, 4, none)
abbrev mX9_fallOf : MI := (yX9_fallOf, cX9_fallOf, 4, (some .int))
abbrev mX9_tries : MI := (yX9_tries, cX9_tries, 6, (some .boolean))
abbrev mX9_made : MI := (yX9_made, cX9_made, 4, (some .long))
abbrev mX9_feed : MI := (yX9_feed, cX9_feed, 2, (some .int))
abbrev mX9_wordFrom : MI := (yX9_wordFrom, cX9_wordFrom, 3, (some .int))
abbrev mX9_find : MI := (yX9_find, cX9_find, 6, (some .int))
abbrev mX9_fails : MI := (yX9_fails, cX9_fails, 2, none)
abbrev mX9_sees : MI := (yX9_sees, cX9_sees, 2, (some .boolean))
abbrev mX9_reads : MI := (yX9_reads, cX9_reads, 6, none)
abbrev mX9_isText : MI := (yX9_isText, cX9_isText, 1, (some .boolean))
abbrev mX9_dances : MI := (yX9_dances, cX9_dances, 2, none)
abbrev mX9_dance : MI := (yX9_dance, cX9_dance, 3, (some .int))
abbrev mX9_fall : MI := (yX9_fall, cX9_fall, 2, (some .int))
abbrev mX9_would : MI := (yX9_would, cX9_would, 1, (some .int))
abbrev mX9_undo : MI := (yX9_undo, cX9_undo, 1, (some .int))
abbrev mX9_redo : MI := (yX9_redo, cX9_redo, 1, (some .int))
abbrev mX9_home : MI := (yX9_home, cX9_home, 2, (some .int))
abbrev mX9_at : MI := (yX9_at, cX9_at, 3, (some .int))
abbrev mX9_on : MI := (yX9_on, cX9_on, 2, (some .int))
abbrev mX9_meant : MI := (yX9_meant, cX9_meant, 2, (some .int))
abbrev mX9_count : MI := (yX9_count, cX9_count, 4, (some .int))
abbrev mX9_searches : MI := (yX9_searches, cX9_searches, 8, (some .int))
abbrev mX9_way : MI := (yX9_way, cX9_way, 5, (some .int))
abbrev mX9_round : MI := (yX9_round, cX9_round, 3, (some .int))
abbrev mX9_quarter : MI := (yX9_quarter, cX9_quarter, 11, (some .long))
abbrev mX9_quarters : MI := (yX9_quarters, cX9_quarters, 9, (some .int))
abbrev mX9_alike : MI := (yX9_alike, cX9_alike, 2, (some .int))
abbrev mX9_squares : MI := (yX9_squares, cX9_squares, 6, (some .int))
abbrev mX9_prints : MI := (yX9_prints, cX9_prints, 2, none)
abbrev mX9_prints_ : MI := (yX9_prints_, cX9_prints_, 3, none)
abbrev mX9_text : MI := (yX9_text, cX9_text, 4, (some .int))
abbrev mX9_picture : MI := (yX9_picture, cX9_picture, 3, (some .int))
abbrev mX9_call : MI := (yX9_call, cX9_call, 2, (some .int))
abbrev mX9_danced : MI := (yX9_danced, cX9_danced, 2, (some .int))
abbrev mX9_image : MI := (yX9_image, cX9_image, 2, (some .int))
abbrev mX9_back : MI := (yX9_back, cX9_back, 2, (some .int))
end
section
theorem dX0_init_0 : decode cX0_init 0 = .ok (.aload_n 0, 1) := by decide +kernel
theorem dX0_init_1 : decode cX0_init 1 = .ok (.invokespecial 1, 3) := by decide +kernel
theorem dX0_init_4 : decode cX0_init 4 = .ok (.aload_n 0, 1) := by decide +kernel
theorem dX0_init_5 : decode cX0_init 5 = .ok (.sipush 200, 3) := by decide +kernel
theorem dX0_init_8 : decode cX0_init 8 = .ok (.newarray .int, 2) := by decide +kernel
theorem dX0_init_10 : decode cX0_init 10 = .ok (.putfield 9, 3) := by decide +kernel
theorem dX0_init_13 : decode cX0_init 13 = .ok (.aload_n 0, 1) := by decide +kernel
theorem dX0_init_14 : decode cX0_init 14 = .ok (.sipush 201, 3) := by decide +kernel
theorem dX0_init_17 : decode cX0_init 17 = .ok (.newarray .long, 2) := by decide +kernel
theorem dX0_init_19 : decode cX0_init 19 = .ok (.putfield 13, 3) := by decide +kernel
theorem dX0_init_22 : decode cX0_init 22 = .ok (.aload_n 0, 1) := by decide +kernel
theorem dX0_init_23 : decode cX0_init 23 = .ok (.sipush 201, 3) := by decide +kernel
theorem dX0_init_26 : decode cX0_init 26 = .ok (.newarray .long, 2) := by decide +kernel
theorem dX0_init_28 : decode cX0_init 28 = .ok (.putfield 17, 3) := by decide +kernel
theorem dX0_init_31 : decode cX0_init 31 = .ok (.aload_n 0, 1) := by decide +kernel
theorem dX0_init_32 : decode cX0_init 32 = .ok (.iconst 0, 1) := by decide +kernel
theorem dX0_init_33 : decode cX0_init 33 = .ok (.putfield 20, 3) := by decide +kernel
theorem dX0_init_36 : decode cX0_init 36 = .ok (.aload_n 0, 1) := by decide +kernel
theorem dX0_init_37 : decode cX0_init 37 = .ok (.iconst 0, 1) := by decide +kernel
theorem dX0_init_38 : decode cX0_init 38 = .ok (.putfield 24, 3) := by decide +kernel
theorem dX0_init_41 : decode cX0_init 41 = .ok (.aload_n 0, 1) := by decide +kernel
theorem dX0_init_42 : decode cX0_init 42 = .ok (.getfield 13, 3) := by decide +kernel
theorem dX0_init_45 : decode cX0_init 45 = .ok (.iconst 0, 1) := by decide +kernel
theorem dX0_init_46 : decode cX0_init 46 = .ok (.invokestatic 27, 3) := by decide +kernel
theorem dX0_init_49 : decode cX0_init 49 = .ok (.lastore, 1) := by decide +kernel
theorem dX0_init_50 : decode cX0_init 50 = .ok (.return_, 1) := by decide +kernel
theorem dX0_latest_0 : decode cX0_latest 0 = .ok (.aload_n 0, 1) := by decide +kernel
theorem dX0_latest_1 : decode cX0_latest 1 = .ok (.getfield 13, 3) := by decide +kernel
theorem dX0_latest_4 : decode cX0_latest 4 = .ok (.aload_n 0, 1) := by decide +kernel
theorem dX0_latest_5 : decode cX0_latest 5 = .ok (.getfield 20, 3) := by decide +kernel
theorem dX0_latest_8 : decode cX0_latest 8 = .ok (.laload, 1) := by decide +kernel
theorem dX0_latest_9 : decode cX0_latest 9 = .ok (.lreturn, 1) := by decide +kernel
theorem dX0_codeAt_0 : decode cX0_codeAt 0 = .ok (.iload_n 1, 1) := by decide +kernel
theorem dX0_codeAt_1 : decode cX0_codeAt 1 = .ok (.ifCond .lt 20, 3) := by decide +kernel
theorem dX0_codeAt_4 : decode cX0_codeAt 4 = .ok (.iload_n 1, 1) := by decide +kernel
theorem dX0_codeAt_5 : decode cX0_codeAt 5 = .ok (.aload_n 0, 1) := by decide +kernel
theorem dX0_codeAt_6 : decode cX0_codeAt 6 = .ok (.getfield 20, 3) := by decide +kernel
theorem dX0_codeAt_9 : decode cX0_codeAt 9 = .ok (.if_icmp .ge 12, 3) := by decide +kernel
theorem dX0_codeAt_12 : decode cX0_codeAt 12 = .ok (.aload_n 0, 1) := by decide +kernel
theorem dX0_codeAt_13 : decode cX0_codeAt 13 = .ok (.getfield 9, 3) := by decide +kernel
theorem dX0_codeAt_16 : decode cX0_codeAt 16 = .ok (.iload_n 1, 1) := by decide +kernel
theorem dX0_codeAt_17 : decode cX0_codeAt 17 = .ok (.iaload, 1) := by decide +kernel
theorem dX0_codeAt_18 : decode cX0_codeAt 18 = .ok (.goto 4, 3) := by decide +kernel
theorem dX0_codeAt_21 : decode cX0_codeAt 21 = .ok (.iconst 0, 1) := by decide +kernel
theorem dX0_codeAt_22 : decode cX0_codeAt 22 = .ok (.ireturn, 1) := by decide +kernel
theorem dX0_add_0 : decode cX0_add 0 = .ok (.aload_n 0, 1) := by decide +kernel
theorem dX0_add_1 : decode cX0_add 1 = .ok (.getfield 20, 3) := by decide +kernel
theorem dX0_add_4 : decode cX0_add 4 = .ok (.sipush 200, 3) := by decide +kernel
theorem dX0_add_7 : decode cX0_add 7 = .ok (.if_icmp .lt 4, 3) := by decide +kernel
theorem dX0_add_10 : decode cX0_add 10 = .ok (.return_, 1) := by decide +kernel
theorem dX0_add_11 : decode cX0_add 11 = .ok (.aload_n 0, 1) := by decide +kernel
theorem dX0_add_12 : decode cX0_add 12 = .ok (.getfield 9, 3) := by decide +kernel
theorem dX0_add_15 : decode cX0_add 15 = .ok (.aload_n 0, 1) := by decide +kernel
theorem dX0_add_16 : decode cX0_add 16 = .ok (.getfield 20, 3) := by decide +kernel
theorem dX0_add_19 : decode cX0_add 19 = .ok (.iload_n 1, 1) := by decide +kernel
theorem dX0_add_20 : decode cX0_add 20 = .ok (.iastore, 1) := by decide +kernel
theorem dX0_add_21 : decode cX0_add 21 = .ok (.aload_n 0, 1) := by decide +kernel
theorem dX0_add_22 : decode cX0_add 22 = .ok (.dup, 1) := by decide +kernel
theorem dX0_add_23 : decode cX0_add 23 = .ok (.getfield 20, 3) := by decide +kernel
theorem dX0_add_26 : decode cX0_add 26 = .ok (.iconst 1, 1) := by decide +kernel
theorem dX0_add_27 : decode cX0_add 27 = .ok (.iadd, 1) := by decide +kernel
theorem dX0_add_28 : decode cX0_add 28 = .ok (.putfield 20, 3) := by decide +kernel
theorem dX0_add_31 : decode cX0_add 31 = .ok (.aload_n 0, 1) := by decide +kernel
theorem dX0_add_32 : decode cX0_add 32 = .ok (.getfield 13, 3) := by decide +kernel
theorem dX0_add_35 : decode cX0_add 35 = .ok (.aload_n 0, 1) := by decide +kernel
theorem dX0_add_36 : decode cX0_add 36 = .ok (.getfield 20, 3) := by decide +kernel
theorem dX0_add_39 : decode cX0_add 39 = .ok (.lload_n 2, 1) := by decide +kernel
theorem dX0_add_40 : decode cX0_add 40 = .ok (.lastore, 1) := by decide +kernel
theorem dX0_add_41 : decode cX0_add 41 = .ok (.aload_n 0, 1) := by decide +kernel
theorem dX0_add_42 : decode cX0_add 42 = .ok (.aload_n 0, 1) := by decide +kernel
theorem dX0_add_43 : decode cX0_add 43 = .ok (.getfield 20, 3) := by decide +kernel
theorem dX0_add_46 : decode cX0_add 46 = .ok (.putfield 24, 3) := by decide +kernel
theorem dX0_add_49 : decode cX0_add 49 = .ok (.return_, 1) := by decide +kernel
theorem dX0_stepBack_0 : decode cX0_stepBack 0 = .ok (.aload_n 0, 1) := by decide +kernel
theorem dX0_stepBack_1 : decode cX0_stepBack 1 = .ok (.getfield 20, 3) := by decide +kernel
theorem dX0_stepBack_4 : decode cX0_stepBack 4 = .ok (.ifCond .ne 5, 3) := by decide +kernel
theorem dX0_stepBack_7 : decode cX0_stepBack 7 = .ok (.iconst 0, 1) := by decide +kernel
theorem dX0_stepBack_8 : decode cX0_stepBack 8 = .ok (.ireturn, 1) := by decide +kernel
theorem dX0_stepBack_9 : decode cX0_stepBack 9 = .ok (.aload_n 0, 1) := by decide +kernel
theorem dX0_stepBack_10 : decode cX0_stepBack 10 = .ok (.dup, 1) := by decide +kernel
theorem dX0_stepBack_11 : decode cX0_stepBack 11 = .ok (.getfield 20, 3) := by decide +kernel
theorem dX0_stepBack_14 : decode cX0_stepBack 14 = .ok (.iconst 1, 1) := by decide +kernel
theorem dX0_stepBack_15 : decode cX0_stepBack 15 = .ok (.isub, 1) := by decide +kernel
theorem dX0_stepBack_16 : decode cX0_stepBack 16 = .ok (.putfield 20, 3) := by decide +kernel
theorem dX0_stepBack_19 : decode cX0_stepBack 19 = .ok (.iconst 1, 1) := by decide +kernel
theorem dX0_stepBack_20 : decode cX0_stepBack 20 = .ok (.ireturn, 1) := by decide +kernel
theorem dX0_stepAgain_0 : decode cX0_stepAgain 0 = .ok (.aload_n 0, 1) := by decide +kernel
theorem dX0_stepAgain_1 : decode cX0_stepAgain 1 = .ok (.getfield 20, 3) := by decide +kernel
theorem dX0_stepAgain_4 : decode cX0_stepAgain 4 = .ok (.aload_n 0, 1) := by decide +kernel
theorem dX0_stepAgain_5 : decode cX0_stepAgain 5 = .ok (.getfield 24, 3) := by decide +kernel
theorem dX0_stepAgain_8 : decode cX0_stepAgain 8 = .ok (.if_icmp .lt 5, 3) := by decide +kernel
theorem dX0_stepAgain_11 : decode cX0_stepAgain 11 = .ok (.iconst 0, 1) := by decide +kernel
theorem dX0_stepAgain_12 : decode cX0_stepAgain 12 = .ok (.ireturn, 1) := by decide +kernel
theorem dX0_stepAgain_13 : decode cX0_stepAgain 13 = .ok (.aload_n 0, 1) := by decide +kernel
theorem dX0_stepAgain_14 : decode cX0_stepAgain 14 = .ok (.dup, 1) := by decide +kernel
theorem dX0_stepAgain_15 : decode cX0_stepAgain 15 = .ok (.getfield 20, 3) := by decide +kernel
theorem dX0_stepAgain_18 : decode cX0_stepAgain 18 = .ok (.iconst 1, 1) := by decide +kernel
theorem dX0_stepAgain_19 : decode cX0_stepAgain 19 = .ok (.iadd, 1) := by decide +kernel
theorem dX0_stepAgain_20 : decode cX0_stepAgain 20 = .ok (.putfield 20, 3) := by decide +kernel
theorem dX0_stepAgain_23 : decode cX0_stepAgain 23 = .ok (.iconst 1, 1) := by decide +kernel
theorem dX0_stepAgain_24 : decode cX0_stepAgain 24 = .ok (.ireturn, 1) := by decide +kernel
theorem dX0_clear_0 : decode cX0_clear 0 = .ok (.aload_n 0, 1) := by decide +kernel
theorem dX0_clear_1 : decode cX0_clear 1 = .ok (.iconst 0, 1) := by decide +kernel
theorem dX0_clear_2 : decode cX0_clear 2 = .ok (.putfield 20, 3) := by decide +kernel
theorem dX0_clear_5 : decode cX0_clear 5 = .ok (.aload_n 0, 1) := by decide +kernel
theorem dX0_clear_6 : decode cX0_clear 6 = .ok (.iconst 0, 1) := by decide +kernel
theorem dX0_clear_7 : decode cX0_clear 7 = .ok (.putfield 24, 3) := by decide +kernel
theorem dX0_clear_10 : decode cX0_clear 10 = .ok (.return_, 1) := by decide +kernel
theorem dX0_copyFrom_0 : decode cX0_copyFrom 0 = .ok (.aload_n 0, 1) := by decide +kernel
theorem dX0_copyFrom_1 : decode cX0_copyFrom 1 = .ok (.aload_n 1, 1) := by decide +kernel
theorem dX0_copyFrom_2 : decode cX0_copyFrom 2 = .ok (.getfield 20, 3) := by decide +kernel
theorem dX0_copyFrom_5 : decode cX0_copyFrom 5 = .ok (.putfield 20, 3) := by decide +kernel
theorem dX0_copyFrom_8 : decode cX0_copyFrom 8 = .ok (.aload_n 0, 1) := by decide +kernel
theorem dX0_copyFrom_9 : decode cX0_copyFrom 9 = .ok (.aload_n 1, 1) := by decide +kernel
theorem dX0_copyFrom_10 : decode cX0_copyFrom 10 = .ok (.getfield 20, 3) := by decide +kernel
theorem dX0_copyFrom_13 : decode cX0_copyFrom 13 = .ok (.putfield 24, 3) := by decide +kernel
theorem dX0_copyFrom_16 : decode cX0_copyFrom 16 = .ok (.aload_n 1, 1) := by decide +kernel
theorem dX0_copyFrom_17 : decode cX0_copyFrom 17 = .ok (.getfield 9, 3) := by decide +kernel
theorem dX0_copyFrom_20 : decode cX0_copyFrom 20 = .ok (.iconst 0, 1) := by decide +kernel
theorem dX0_copyFrom_21 : decode cX0_copyFrom 21 = .ok (.aload_n 0, 1) := by decide +kernel
theorem dX0_copyFrom_22 : decode cX0_copyFrom 22 = .ok (.getfield 9, 3) := by decide +kernel
theorem dX0_copyFrom_25 : decode cX0_copyFrom 25 = .ok (.iconst 0, 1) := by decide +kernel
theorem dX0_copyFrom_26 : decode cX0_copyFrom 26 = .ok (.aload_n 0, 1) := by decide +kernel
theorem dX0_copyFrom_27 : decode cX0_copyFrom 27 = .ok (.getfield 20, 3) := by decide +kernel
theorem dX0_copyFrom_30 : decode cX0_copyFrom 30 = .ok (.invokestatic 33, 3) := by decide +kernel
theorem dX0_copyFrom_33 : decode cX0_copyFrom 33 = .ok (.aload_n 1, 1) := by decide +kernel
theorem dX0_copyFrom_34 : decode cX0_copyFrom 34 = .ok (.getfield 13, 3) := by decide +kernel
theorem dX0_copyFrom_37 : decode cX0_copyFrom 37 = .ok (.iconst 0, 1) := by decide +kernel
theorem dX0_copyFrom_38 : decode cX0_copyFrom 38 = .ok (.aload_n 0, 1) := by decide +kernel
theorem dX0_copyFrom_39 : decode cX0_copyFrom 39 = .ok (.getfield 13, 3) := by decide +kernel
theorem dX0_copyFrom_42 : decode cX0_copyFrom 42 = .ok (.iconst 0, 1) := by decide +kernel
theorem dX0_copyFrom_43 : decode cX0_copyFrom 43 = .ok (.aload_n 0, 1) := by decide +kernel
theorem dX0_copyFrom_44 : decode cX0_copyFrom 44 = .ok (.getfield 20, 3) := by decide +kernel
theorem dX0_copyFrom_47 : decode cX0_copyFrom 47 = .ok (.iconst 1, 1) := by decide +kernel
theorem dX0_copyFrom_48 : decode cX0_copyFrom 48 = .ok (.iadd, 1) := by decide +kernel
theorem dX0_copyFrom_49 : decode cX0_copyFrom 49 = .ok (.invokestatic 33, 3) := by decide +kernel
theorem dX0_copyFrom_52 : decode cX0_copyFrom 52 = .ok (.return_, 1) := by decide +kernel
theorem dX0_unlike_0 : decode cX0_unlike 0 = .ok (.iconst 0, 1) := by decide +kernel
theorem dX0_unlike_1 : decode cX0_unlike 1 = .ok (.istore_n 2, 1) := by decide +kernel
theorem dX0_unlike_2 : decode cX0_unlike 2 = .ok (.iconst 0, 1) := by decide +kernel
theorem dX0_unlike_3 : decode cX0_unlike 3 = .ok (.istore_n 3, 1) := by decide +kernel
theorem dX0_unlike_4 : decode cX0_unlike 4 = .ok (.iload_n 3, 1) := by decide +kernel
theorem dX0_unlike_5 : decode cX0_unlike 5 = .ok (.aload_n 0, 1) := by decide +kernel
theorem dX0_unlike_6 : decode cX0_unlike 6 = .ok (.getfield 20, 3) := by decide +kernel
theorem dX0_unlike_9 : decode cX0_unlike 9 = .ok (.if_icmp .gt 67, 3) := by decide +kernel
theorem dX0_unlike_12 : decode cX0_unlike 12 = .ok (.iload_n 1, 1) := by decide +kernel
theorem dX0_unlike_13 : decode cX0_unlike 13 = .ok (.ifCond .ne 12, 3) := by decide +kernel
theorem dX0_unlike_16 : decode cX0_unlike 16 = .ok (.aload_n 0, 1) := by decide +kernel
theorem dX0_unlike_17 : decode cX0_unlike 17 = .ok (.getfield 13, 3) := by decide +kernel
theorem dX0_unlike_20 : decode cX0_unlike 20 = .ok (.iload_n 3, 1) := by decide +kernel
theorem dX0_unlike_21 : decode cX0_unlike 21 = .ok (.laload, 1) := by decide +kernel
theorem dX0_unlike_22 : decode cX0_unlike 22 = .ok (.goto 22, 3) := by decide +kernel
theorem dX0_unlike_25 : decode cX0_unlike 25 = .ok (.aload_n 0, 1) := by decide +kernel
theorem dX0_unlike_26 : decode cX0_unlike 26 = .ok (.getfield 13, 3) := by decide +kernel
theorem dX0_unlike_29 : decode cX0_unlike 29 = .ok (.iload_n 3, 1) := by decide +kernel
theorem dX0_unlike_30 : decode cX0_unlike 30 = .ok (.laload, 1) := by decide +kernel
theorem dX0_unlike_31 : decode cX0_unlike 31 = .ok (.iload_n 1, 1) := by decide +kernel
theorem dX0_unlike_32 : decode cX0_unlike 32 = .ok (.iconst 1, 1) := by decide +kernel
theorem dX0_unlike_33 : decode cX0_unlike 33 = .ok (.if_icmp .ne 7, 3) := by decide +kernel
theorem dX0_unlike_36 : decode cX0_unlike 36 = .ok (.iconst 1, 1) := by decide +kernel
theorem dX0_unlike_37 : decode cX0_unlike 37 = .ok (.goto 4, 3) := by decide +kernel
theorem dX0_unlike_40 : decode cX0_unlike 40 = .ok (.iconst 0, 1) := by decide +kernel
theorem dX0_unlike_41 : decode cX0_unlike 41 = .ok (.invokestatic 39, 3) := by decide +kernel
theorem dX0_unlike_44 : decode cX0_unlike 44 = .ok (.lstore 4, 2) := by decide +kernel
theorem dX0_unlike_46 : decode cX0_unlike 46 = .ok (.lload 4, 2) := by decide +kernel
theorem dX0_unlike_48 : decode cX0_unlike 48 = .ok (.aload_n 0, 1) := by decide +kernel
theorem dX0_unlike_49 : decode cX0_unlike 49 = .ok (.getfield 17, 3) := by decide +kernel
theorem dX0_unlike_52 : decode cX0_unlike 52 = .ok (.iload_n 2, 1) := by decide +kernel
theorem dX0_unlike_53 : decode cX0_unlike 53 = .ok (.invokestatic 43, 3) := by decide +kernel
theorem dX0_unlike_56 : decode cX0_unlike 56 = .ok (.ifCond .ne 14, 3) := by decide +kernel
theorem dX0_unlike_59 : decode cX0_unlike 59 = .ok (.aload_n 0, 1) := by decide +kernel
theorem dX0_unlike_60 : decode cX0_unlike 60 = .ok (.getfield 17, 3) := by decide +kernel
theorem dX0_unlike_63 : decode cX0_unlike 63 = .ok (.iload_n 2, 1) := by decide +kernel
theorem dX0_unlike_64 : decode cX0_unlike 64 = .ok (.lload 4, 2) := by decide +kernel
theorem dX0_unlike_66 : decode cX0_unlike 66 = .ok (.lastore, 1) := by decide +kernel
theorem dX0_unlike_67 : decode cX0_unlike 67 = .ok (.iinc 2 1, 3) := by decide +kernel
theorem dX0_unlike_70 : decode cX0_unlike 70 = .ok (.iinc 3 1, 3) := by decide +kernel
theorem dX0_unlike_73 : decode cX0_unlike 73 = .ok (.goto (-69), 3) := by decide +kernel
theorem dX0_unlike_76 : decode cX0_unlike 76 = .ok (.iload_n 2, 1) := by decide +kernel
theorem dX0_unlike_77 : decode cX0_unlike 77 = .ok (.ireturn, 1) := by decide +kernel
theorem dX0_sameFrom_0 : decode cX0_sameFrom 0 = .ok (.iload_n 1, 1) := by decide +kernel
theorem dX0_sameFrom_1 : decode cX0_sameFrom 1 = .ok (.iconst 1, 1) := by decide +kernel
theorem dX0_sameFrom_2 : decode cX0_sameFrom 2 = .ok (.iadd, 1) := by decide +kernel
theorem dX0_sameFrom_3 : decode cX0_sameFrom 3 = .ok (.istore_n 2, 1) := by decide +kernel
theorem dX0_sameFrom_4 : decode cX0_sameFrom 4 = .ok (.iload_n 2, 1) := by decide +kernel
theorem dX0_sameFrom_5 : decode cX0_sameFrom 5 = .ok (.aload_n 0, 1) := by decide +kernel
theorem dX0_sameFrom_6 : decode cX0_sameFrom 6 = .ok (.getfield 20, 3) := by decide +kernel
theorem dX0_sameFrom_9 : decode cX0_sameFrom 9 = .ok (.if_icmp .ge 29, 3) := by decide +kernel
theorem dX0_sameFrom_12 : decode cX0_sameFrom 12 = .ok (.iload_n 2, 1) := by decide +kernel
theorem dX0_sameFrom_13 : decode cX0_sameFrom 13 = .ok (.iload_n 1, 1) := by decide +kernel
theorem dX0_sameFrom_14 : decode cX0_sameFrom 14 = .ok (.iconst 4, 1) := by decide +kernel
theorem dX0_sameFrom_15 : decode cX0_sameFrom 15 = .ok (.iadd, 1) := by decide +kernel
theorem dX0_sameFrom_16 : decode cX0_sameFrom 16 = .ok (.if_icmp .ge 22, 3) := by decide +kernel
theorem dX0_sameFrom_19 : decode cX0_sameFrom 19 = .ok (.aload_n 0, 1) := by decide +kernel
theorem dX0_sameFrom_20 : decode cX0_sameFrom 20 = .ok (.iload_n 2, 1) := by decide +kernel
theorem dX0_sameFrom_21 : decode cX0_sameFrom 21 = .ok (.invokevirtual 47, 3) := by decide +kernel
theorem dX0_sameFrom_24 : decode cX0_sameFrom 24 = .ok (.aload_n 0, 1) := by decide +kernel
theorem dX0_sameFrom_25 : decode cX0_sameFrom 25 = .ok (.iload_n 1, 1) := by decide +kernel
theorem dX0_sameFrom_26 : decode cX0_sameFrom 26 = .ok (.invokevirtual 47, 3) := by decide +kernel
theorem dX0_sameFrom_29 : decode cX0_sameFrom 29 = .ok (.if_icmp .ne 9, 3) := by decide +kernel
theorem dX0_sameFrom_32 : decode cX0_sameFrom 32 = .ok (.iinc 2 1, 3) := by decide +kernel
theorem dX0_sameFrom_35 : decode cX0_sameFrom 35 = .ok (.goto (-31), 3) := by decide +kernel
theorem dX0_sameFrom_38 : decode cX0_sameFrom 38 = .ok (.iload_n 2, 1) := by decide +kernel
theorem dX0_sameFrom_39 : decode cX0_sameFrom 39 = .ok (.iload_n 1, 1) := by decide +kernel
theorem dX0_sameFrom_40 : decode cX0_sameFrom 40 = .ok (.isub, 1) := by decide +kernel
theorem dX0_sameFrom_41 : decode cX0_sameFrom 41 = .ok (.ireturn, 1) := by decide +kernel
theorem dX1_init_0 : decode cX1_init 0 = .ok (.aload_n 0, 1) := by decide +kernel
theorem dX1_init_1 : decode cX1_init 1 = .ok (.invokespecial 3, 3) := by decide +kernel
theorem dX1_init_4 : decode cX1_init 4 = .ok (.aload_n 0, 1) := by decide +kernel
theorem dX1_init_5 : decode cX1_init 5 = .ok (.bipush 8, 2) := by decide +kernel
theorem dX1_init_7 : decode cX1_init 7 = .ok (.newarray .int, 2) := by decide +kernel
theorem dX1_init_9 : decode cX1_init 9 = .ok (.putfield 9, 3) := by decide +kernel
theorem dX1_init_12 : decode cX1_init 12 = .ok (.aload_n 0, 1) := by decide +kernel
theorem dX1_init_13 : decode cX1_init 13 = .ok (.iconst 0, 1) := by decide +kernel
theorem dX1_init_14 : decode cX1_init 14 = .ok (.putfield 15, 3) := by decide +kernel
theorem dX1_init_17 : decode cX1_init 17 = .ok (.aload_n 0, 1) := by decide +kernel
theorem dX1_init_18 : decode cX1_init 18 = .ok (.iconst 0, 1) := by decide +kernel
theorem dX1_init_19 : decode cX1_init 19 = .ok (.putfield 19, 3) := by decide +kernel
theorem dX1_init_22 : decode cX1_init 22 = .ok (.return_, 1) := by decide +kernel
theorem dX1_clear_0 : decode cX1_clear 0 = .ok (.aload_n 0, 1) := by decide +kernel
theorem dX1_clear_1 : decode cX1_clear 1 = .ok (.iconst 0, 1) := by decide +kernel
theorem dX1_clear_2 : decode cX1_clear 2 = .ok (.putfield 15, 3) := by decide +kernel
theorem dX1_clear_5 : decode cX1_clear 5 = .ok (.aload_n 0, 1) := by decide +kernel
theorem dX1_clear_6 : decode cX1_clear 6 = .ok (.iconst 0, 1) := by decide +kernel
theorem dX1_clear_7 : decode cX1_clear 7 = .ok (.putfield 19, 3) := by decide +kernel
theorem dX1_clear_10 : decode cX1_clear 10 = .ok (.return_, 1) := by decide +kernel
theorem dX1_note_0 : decode cX1_note 0 = .ok (.aload_n 0, 1) := by decide +kernel
theorem dX1_note_1 : decode cX1_note 1 = .ok (.invokevirtual 22, 3) := by decide +kernel
theorem dX1_note_4 : decode cX1_note 4 = .ok (.aload_n 0, 1) := by decide +kernel
theorem dX1_note_5 : decode cX1_note 5 = .ok (.aload_n 1, 1) := by decide +kernel
theorem dX1_note_6 : decode cX1_note 6 = .ok (.getfield 25, 3) := by decide +kernel
theorem dX1_note_9 : decode cX1_note 9 = .ok (.putfield 19, 3) := by decide +kernel
theorem dX1_note_12 : decode cX1_note 12 = .ok (.iconst 0, 1) := by decide +kernel
theorem dX1_note_13 : decode cX1_note 13 = .ok (.istore_n 2, 1) := by decide +kernel
theorem dX1_note_14 : decode cX1_note 14 = .ok (.iload_n 2, 1) := by decide +kernel
theorem dX1_note_15 : decode cX1_note 15 = .ok (.bipush 8, 2) := by decide +kernel
theorem dX1_note_17 : decode cX1_note 17 = .ok (.if_icmp .ge 48, 3) := by decide +kernel
theorem dX1_note_20 : decode cX1_note 20 = .ok (.aload_n 1, 1) := by decide +kernel
theorem dX1_note_21 : decode cX1_note 21 = .ok (.getfield 28, 3) := by decide +kernel
theorem dX1_note_24 : decode cX1_note 24 = .ok (.iload_n 2, 1) := by decide +kernel
theorem dX1_note_25 : decode cX1_note 25 = .ok (.iaload, 1) := by decide +kernel
theorem dX1_note_26 : decode cX1_note 26 = .ok (.ifCond .eq 33, 3) := by decide +kernel
theorem dX1_note_29 : decode cX1_note 29 = .ok (.aload_n 0, 1) := by decide +kernel
theorem dX1_note_30 : decode cX1_note 30 = .ok (.getfield 9, 3) := by decide +kernel
theorem dX1_note_33 : decode cX1_note 33 = .ok (.aload_n 0, 1) := by decide +kernel
theorem dX1_note_34 : decode cX1_note 34 = .ok (.getfield 15, 3) := by decide +kernel
theorem dX1_note_37 : decode cX1_note 37 = .ok (.bipush 10, 2) := by decide +kernel
theorem dX1_note_39 : decode cX1_note 39 = .ok (.iload_n 2, 1) := by decide +kernel
theorem dX1_note_40 : decode cX1_note 40 = .ok (.imul, 1) := by decide +kernel
theorem dX1_note_41 : decode cX1_note 41 = .ok (.aload_n 1, 1) := by decide +kernel
theorem dX1_note_42 : decode cX1_note 42 = .ok (.getfield 28, 3) := by decide +kernel
theorem dX1_note_45 : decode cX1_note 45 = .ok (.iload_n 2, 1) := by decide +kernel
theorem dX1_note_46 : decode cX1_note 46 = .ok (.iaload, 1) := by decide +kernel
theorem dX1_note_47 : decode cX1_note 47 = .ok (.iadd, 1) := by decide +kernel
theorem dX1_note_48 : decode cX1_note 48 = .ok (.iastore, 1) := by decide +kernel
theorem dX1_note_49 : decode cX1_note 49 = .ok (.aload_n 0, 1) := by decide +kernel
theorem dX1_note_50 : decode cX1_note 50 = .ok (.dup, 1) := by decide +kernel
theorem dX1_note_51 : decode cX1_note 51 = .ok (.getfield 15, 3) := by decide +kernel
theorem dX1_note_54 : decode cX1_note 54 = .ok (.iconst 1, 1) := by decide +kernel
theorem dX1_note_55 : decode cX1_note 55 = .ok (.iadd, 1) := by decide +kernel
theorem dX1_note_56 : decode cX1_note 56 = .ok (.putfield 15, 3) := by decide +kernel
theorem dX1_note_59 : decode cX1_note 59 = .ok (.iinc 2 1, 3) := by decide +kernel
theorem dX1_note_62 : decode cX1_note 62 = .ok (.goto (-48), 3) := by decide +kernel
theorem dX1_note_65 : decode cX1_note 65 = .ok (.return_, 1) := by decide +kernel
theorem dX1_has_0 : decode cX1_has 0 = .ok (.iload_n 1, 1) := by decide +kernel
theorem dX1_has_1 : decode cX1_has 1 = .ok (.ifCond .lt 15, 3) := by decide +kernel
theorem dX1_has_4 : decode cX1_has 4 = .ok (.iload_n 1, 1) := by decide +kernel
theorem dX1_has_5 : decode cX1_has 5 = .ok (.aload_n 0, 1) := by decide +kernel
theorem dX1_has_6 : decode cX1_has 6 = .ok (.getfield 15, 3) := by decide +kernel
theorem dX1_has_9 : decode cX1_has 9 = .ok (.if_icmp .ge 7, 3) := by decide +kernel
theorem dX1_has_12 : decode cX1_has 12 = .ok (.iconst 1, 1) := by decide +kernel
theorem dX1_has_13 : decode cX1_has 13 = .ok (.goto 4, 3) := by decide +kernel
theorem dX1_has_16 : decode cX1_has 16 = .ok (.iconst 0, 1) := by decide +kernel
theorem dX1_has_17 : decode cX1_has 17 = .ok (.ireturn, 1) := by decide +kernel
theorem dX2_init_0 : decode cX2_init 0 = .ok (.aload_n 0, 1) := by decide +kernel
theorem dX2_init_1 : decode cX2_init 1 = .ok (.invokespecial 3, 3) := by decide +kernel
theorem dX2_init_4 : decode cX2_init 4 = .ok (.aload_n 0, 1) := by decide +kernel
theorem dX2_init_5 : decode cX2_init 5 = .ok (.bipush 8, 2) := by decide +kernel
theorem dX2_init_7 : decode cX2_init 7 = .ok (.newarray .int, 2) := by decide +kernel
theorem dX2_init_9 : decode cX2_init 9 = .ok (.putfield 9, 3) := by decide +kernel
theorem dX2_init_12 : decode cX2_init 12 = .ok (.aload_n 0, 1) := by decide +kernel
theorem dX2_init_13 : decode cX2_init 13 = .ok (.bipush 8, 2) := by decide +kernel
theorem dX2_init_15 : decode cX2_init 15 = .ok (.newarray .int, 2) := by decide +kernel
theorem dX2_init_17 : decode cX2_init 17 = .ok (.putfield 15, 3) := by decide +kernel
theorem dX2_init_20 : decode cX2_init 20 = .ok (.aload_n 0, 1) := by decide +kernel
theorem dX2_init_21 : decode cX2_init 21 = .ok (.bipush 16, 2) := by decide +kernel
theorem dX2_init_23 : decode cX2_init 23 = .ok (.newarray .int, 2) := by decide +kernel
theorem dX2_init_25 : decode cX2_init 25 = .ok (.putfield 18, 3) := by decide +kernel
theorem dX2_init_28 : decode cX2_init 28 = .ok (.aload_n 0, 1) := by decide +kernel
theorem dX2_init_29 : decode cX2_init 29 = .ok (.bipush 8, 2) := by decide +kernel
theorem dX2_init_31 : decode cX2_init 31 = .ok (.newarray .int, 2) := by decide +kernel
theorem dX2_init_33 : decode cX2_init 33 = .ok (.putfield 21, 3) := by decide +kernel
theorem dX2_init_36 : decode cX2_init 36 = .ok (.aload_n 0, 1) := by decide +kernel
theorem dX2_init_37 : decode cX2_init 37 = .ok (.bipush 8, 2) := by decide +kernel
theorem dX2_init_39 : decode cX2_init 39 = .ok (.newarray .int, 2) := by decide +kernel
theorem dX2_init_41 : decode cX2_init 41 = .ok (.putfield 24, 3) := by decide +kernel
theorem dX2_init_44 : decode cX2_init 44 = .ok (.aload_n 0, 1) := by decide +kernel
theorem dX2_init_45 : decode cX2_init 45 = .ok (.bipush 8, 2) := by decide +kernel
theorem dX2_init_47 : decode cX2_init 47 = .ok (.newarray .int, 2) := by decide +kernel
theorem dX2_init_49 : decode cX2_init 49 = .ok (.putfield 27, 3) := by decide +kernel
theorem dX2_init_52 : decode cX2_init 52 = .ok (.aload_n 0, 1) := by decide +kernel
theorem dX2_init_53 : decode cX2_init 53 = .ok (.iconst 0, 1) := by decide +kernel
theorem dX2_init_54 : decode cX2_init 54 = .ok (.putfield 30, 3) := by decide +kernel
theorem dX2_init_57 : decode cX2_init 57 = .ok (.aload_n 0, 1) := by decide +kernel
theorem dX2_init_58 : decode cX2_init 58 = .ok (.iconst 0, 1) := by decide +kernel
theorem dX2_init_59 : decode cX2_init 59 = .ok (.putfield 34, 3) := by decide +kernel
theorem dX2_init_62 : decode cX2_init 62 = .ok (.return_, 1) := by decide +kernel
theorem dX2_load_0 : decode cX2_load 0 = .ok (.iconst 0, 1) := by decide +kernel
theorem dX2_load_1 : decode cX2_load 1 = .ok (.istore_n 3, 1) := by decide +kernel
theorem dX2_load_2 : decode cX2_load 2 = .ok (.iload_n 3, 1) := by decide +kernel
theorem dX2_load_3 : decode cX2_load 3 = .ok (.bipush 16, 2) := by decide +kernel
theorem dX2_load_5 : decode cX2_load 5 = .ok (.if_icmp .ge 16, 3) := by decide +kernel
theorem dX2_load_8 : decode cX2_load 8 = .ok (.aload_n 0, 1) := by decide +kernel
theorem dX2_load_9 : decode cX2_load 9 = .ok (.getfield 18, 3) := by decide +kernel
theorem dX2_load_12 : decode cX2_load 12 = .ok (.iload_n 3, 1) := by decide +kernel
theorem dX2_load_13 : decode cX2_load 13 = .ok (.iconst (-1), 1) := by decide +kernel
theorem dX2_load_14 : decode cX2_load 14 = .ok (.iastore, 1) := by decide +kernel
theorem dX2_load_15 : decode cX2_load 15 = .ok (.iinc 3 1, 3) := by decide +kernel
theorem dX2_load_18 : decode cX2_load 18 = .ok (.goto (-16), 3) := by decide +kernel
theorem dX2_load_21 : decode cX2_load 21 = .ok (.iconst 0, 1) := by decide +kernel
theorem dX2_load_22 : decode cX2_load 22 = .ok (.istore_n 3, 1) := by decide +kernel
theorem dX2_load_23 : decode cX2_load 23 = .ok (.iload_n 3, 1) := by decide +kernel
theorem dX2_load_24 : decode cX2_load 24 = .ok (.bipush 8, 2) := by decide +kernel
theorem dX2_load_26 : decode cX2_load 26 = .ok (.if_icmp .ge 43, 3) := by decide +kernel
theorem dX2_load_29 : decode cX2_load 29 = .ok (.lload_n 1, 1) := by decide +kernel
theorem dX2_load_30 : decode cX2_load 30 = .ok (.iload_n 3, 1) := by decide +kernel
theorem dX2_load_31 : decode cX2_load 31 = .ok (.invokestatic 37, 3) := by decide +kernel
theorem dX2_load_34 : decode cX2_load 34 = .ok (.istore 4, 2) := by decide +kernel
theorem dX2_load_36 : decode cX2_load 36 = .ok (.aload_n 0, 1) := by decide +kernel
theorem dX2_load_37 : decode cX2_load 37 = .ok (.getfield 9, 3) := by decide +kernel
theorem dX2_load_40 : decode cX2_load 40 = .ok (.iload_n 3, 1) := by decide +kernel
theorem dX2_load_41 : decode cX2_load 41 = .ok (.iload 4, 2) := by decide +kernel
theorem dX2_load_43 : decode cX2_load 43 = .ok (.iastore, 1) := by decide +kernel
theorem dX2_load_44 : decode cX2_load 44 = .ok (.aload_n 0, 1) := by decide +kernel
theorem dX2_load_45 : decode cX2_load 45 = .ok (.getfield 15, 3) := by decide +kernel
theorem dX2_load_48 : decode cX2_load 48 = .ok (.iload_n 3, 1) := by decide +kernel
theorem dX2_load_49 : decode cX2_load 49 = .ok (.lload_n 1, 1) := by decide +kernel
theorem dX2_load_50 : decode cX2_load 50 = .ok (.iload_n 3, 1) := by decide +kernel
theorem dX2_load_51 : decode cX2_load 51 = .ok (.invokestatic 43, 3) := by decide +kernel
theorem dX2_load_54 : decode cX2_load 54 = .ok (.iastore, 1) := by decide +kernel
theorem dX2_load_55 : decode cX2_load 55 = .ok (.aload_n 0, 1) := by decide +kernel
theorem dX2_load_56 : decode cX2_load 56 = .ok (.getfield 18, 3) := by decide +kernel
theorem dX2_load_59 : decode cX2_load 59 = .ok (.iload 4, 2) := by decide +kernel
theorem dX2_load_61 : decode cX2_load 61 = .ok (.iload_n 3, 1) := by decide +kernel
theorem dX2_load_62 : decode cX2_load 62 = .ok (.iastore, 1) := by decide +kernel
theorem dX2_load_63 : decode cX2_load 63 = .ok (.iinc 3 1, 3) := by decide +kernel
theorem dX2_load_66 : decode cX2_load 66 = .ok (.goto (-43), 3) := by decide +kernel
theorem dX2_load_69 : decode cX2_load 69 = .ok (.return_, 1) := by decide +kernel
theorem dX2_packed_0 : decode cX2_packed 0 = .ok (.aload_n 0, 1) := by decide +kernel
theorem dX2_packed_1 : decode cX2_packed 1 = .ok (.getfield 9, 3) := by decide +kernel
theorem dX2_packed_4 : decode cX2_packed 4 = .ok (.aload_n 0, 1) := by decide +kernel
theorem dX2_packed_5 : decode cX2_packed 5 = .ok (.getfield 15, 3) := by decide +kernel
theorem dX2_packed_8 : decode cX2_packed 8 = .ok (.invokestatic 46, 3) := by decide +kernel
theorem dX2_packed_11 : decode cX2_packed 11 = .ok (.lreturn, 1) := by decide +kernel
theorem dX2_planned_0 : decode cX2_planned 0 = .ok (.aload_n 0, 1) := by decide +kernel
theorem dX2_planned_1 : decode cX2_planned 1 = .ok (.getfield 21, 3) := by decide +kernel
theorem dX2_planned_4 : decode cX2_planned 4 = .ok (.aload_n 0, 1) := by decide +kernel
theorem dX2_planned_5 : decode cX2_planned 5 = .ok (.getfield 24, 3) := by decide +kernel
theorem dX2_planned_8 : decode cX2_planned 8 = .ok (.invokestatic 46, 3) := by decide +kernel
theorem dX2_planned_11 : decode cX2_planned 11 = .ok (.lreturn, 1) := by decide +kernel
theorem dX2_plan_0 : decode cX2_plan 0 = .ok (.iload_n 1, 1) := by decide +kernel
theorem dX2_plan_1 : decode cX2_plan 1 = .ok (.bipush 100, 2) := by decide +kernel
theorem dX2_plan_3 : decode cX2_plan 3 = .ok (.irem, 1) := by decide +kernel
theorem dX2_plan_4 : decode cX2_plan 4 = .ok (.istore_n 2, 1) := by decide +kernel
theorem dX2_plan_5 : decode cX2_plan 5 = .ok (.aload_n 0, 1) := by decide +kernel
theorem dX2_plan_6 : decode cX2_plan 6 = .ok (.iload_n 1, 1) := by decide +kernel
theorem dX2_plan_7 : decode cX2_plan 7 = .ok (.bipush 100, 2) := by decide +kernel
theorem dX2_plan_9 : decode cX2_plan 9 = .ok (.idiv, 1) := by decide +kernel
theorem dX2_plan_10 : decode cX2_plan 10 = .ok (.invokevirtual 50, 3) := by decide +kernel
theorem dX2_plan_13 : decode cX2_plan 13 = .ok (.istore_n 3, 1) := by decide +kernel
theorem dX2_plan_14 : decode cX2_plan 14 = .ok (.aload_n 0, 1) := by decide +kernel
theorem dX2_plan_15 : decode cX2_plan 15 = .ok (.invokevirtual 54, 3) := by decide +kernel
theorem dX2_plan_18 : decode cX2_plan 18 = .ok (.iload_n 3, 1) := by decide +kernel
theorem dX2_plan_19 : decode cX2_plan 19 = .ok (.ifCond .ne 10, 3) := by decide +kernel
theorem dX2_plan_22 : decode cX2_plan 22 = .ok (.aload_n 0, 1) := by decide +kernel
theorem dX2_plan_23 : decode cX2_plan 23 = .ok (.iconst 4, 1) := by decide +kernel
theorem dX2_plan_24 : decode cX2_plan 24 = .ok (.putfield 30, 3) := by decide +kernel
theorem dX2_plan_27 : decode cX2_plan 27 = .ok (.iconst 0, 1) := by decide +kernel
theorem dX2_plan_28 : decode cX2_plan 28 = .ok (.ireturn, 1) := by decide +kernel
theorem dX2_plan_29 : decode cX2_plan 29 = .ok (.iload_n 2, 1) := by decide +kernel
theorem dX2_plan_30 : decode cX2_plan 30 = .ok (.bipush 11, 2) := by decide +kernel
theorem dX2_plan_32 : decode cX2_plan 32 = .ok (.if_icmp .ne 11, 3) := by decide +kernel
theorem dX2_plan_35 : decode cX2_plan 35 = .ok (.aload_n 0, 1) := by decide +kernel
theorem dX2_plan_36 : decode cX2_plan 36 = .ok (.iload_n 3, 1) := by decide +kernel
theorem dX2_plan_37 : decode cX2_plan 37 = .ok (.invokevirtual 57, 3) := by decide +kernel
theorem dX2_plan_40 : decode cX2_plan 40 = .ok (.goto 23, 3) := by decide +kernel
theorem dX2_plan_43 : decode cX2_plan 43 = .ok (.iload_n 2, 1) := by decide +kernel
theorem dX2_plan_44 : decode cX2_plan 44 = .ok (.iconst 4, 1) := by decide +kernel
theorem dX2_plan_45 : decode cX2_plan 45 = .ok (.if_icmp .gt 12, 3) := by decide +kernel
theorem dX2_plan_48 : decode cX2_plan 48 = .ok (.aload_n 0, 1) := by decide +kernel
theorem dX2_plan_49 : decode cX2_plan 49 = .ok (.iload_n 3, 1) := by decide +kernel
theorem dX2_plan_50 : decode cX2_plan 50 = .ok (.iload_n 2, 1) := by decide +kernel
theorem dX2_plan_51 : decode cX2_plan 51 = .ok (.invokevirtual 61, 3) := by decide +kernel
theorem dX2_plan_54 : decode cX2_plan 54 = .ok (.goto 9, 3) := by decide +kernel
theorem dX2_plan_57 : decode cX2_plan 57 = .ok (.aload_n 0, 1) := by decide +kernel
theorem dX2_plan_58 : decode cX2_plan 58 = .ok (.iload_n 3, 1) := by decide +kernel
theorem dX2_plan_59 : decode cX2_plan 59 = .ok (.iload_n 2, 1) := by decide +kernel
theorem dX2_plan_60 : decode cX2_plan 60 = .ok (.invokevirtual 65, 3) := by decide +kernel
theorem dX2_plan_63 : decode cX2_plan 63 = .ok (.iload_n 2, 1) := by decide +kernel
theorem dX2_plan_64 : decode cX2_plan 64 = .ok (.ifCond .eq 14, 3) := by decide +kernel
theorem dX2_plan_67 : decode cX2_plan 67 = .ok (.iload_n 2, 1) := by decide +kernel
theorem dX2_plan_68 : decode cX2_plan 68 = .ok (.iconst 1, 1) := by decide +kernel
theorem dX2_plan_69 : decode cX2_plan 69 = .ok (.if_icmp .eq 9, 3) := by decide +kernel
theorem dX2_plan_72 : decode cX2_plan 72 = .ok (.iload_n 2, 1) := by decide +kernel
theorem dX2_plan_73 : decode cX2_plan 73 = .ok (.bipush 10, 2) := by decide +kernel
theorem dX2_plan_75 : decode cX2_plan 75 = .ok (.if_icmp .ne 7, 3) := by decide +kernel
theorem dX2_plan_78 : decode cX2_plan 78 = .ok (.iconst 1, 1) := by decide +kernel
theorem dX2_plan_79 : decode cX2_plan 79 = .ok (.goto 4, 3) := by decide +kernel
theorem dX2_plan_82 : decode cX2_plan 82 = .ok (.iconst 0, 1) := by decide +kernel
theorem dX2_plan_83 : decode cX2_plan 83 = .ok (.istore 4, 2) := by decide +kernel
theorem dX2_plan_85 : decode cX2_plan 85 = .ok (.aload_n 0, 1) := by decide +kernel
theorem dX2_plan_86 : decode cX2_plan 86 = .ok (.getfield 30, 3) := by decide +kernel
theorem dX2_plan_89 : decode cX2_plan 89 = .ok (.ifCond .ne 19, 3) := by decide +kernel
theorem dX2_plan_92 : decode cX2_plan 92 = .ok (.iload 4, 2) := by decide +kernel
theorem dX2_plan_94 : decode cX2_plan 94 = .ok (.ifCond .eq 10, 3) := by decide +kernel
theorem dX2_plan_97 : decode cX2_plan 97 = .ok (.aload_n 0, 1) := by decide +kernel
theorem dX2_plan_98 : decode cX2_plan 98 = .ok (.invokevirtual 68, 3) := by decide +kernel
theorem dX2_plan_101 : decode cX2_plan 101 = .ok (.ifCond .ne 7, 3) := by decide +kernel
theorem dX2_plan_104 : decode cX2_plan 104 = .ok (.iconst 1, 1) := by decide +kernel
theorem dX2_plan_105 : decode cX2_plan 105 = .ok (.goto 4, 3) := by decide +kernel
theorem dX2_plan_108 : decode cX2_plan 108 = .ok (.iconst 0, 1) := by decide +kernel
theorem dX2_plan_109 : decode cX2_plan 109 = .ok (.ireturn, 1) := by decide +kernel
theorem dX2_startPlan_0 : decode cX2_startPlan 0 = .ok (.iconst 0, 1) := by decide +kernel
theorem dX2_startPlan_1 : decode cX2_startPlan 1 = .ok (.istore_n 1, 1) := by decide +kernel
theorem dX2_startPlan_2 : decode cX2_startPlan 2 = .ok (.iload_n 1, 1) := by decide +kernel
theorem dX2_startPlan_3 : decode cX2_startPlan 3 = .ok (.bipush 8, 2) := by decide +kernel
theorem dX2_startPlan_5 : decode cX2_startPlan 5 = .ok (.if_icmp .ge 40, 3) := by decide +kernel
theorem dX2_startPlan_8 : decode cX2_startPlan 8 = .ok (.aload_n 0, 1) := by decide +kernel
theorem dX2_startPlan_9 : decode cX2_startPlan 9 = .ok (.getfield 21, 3) := by decide +kernel
theorem dX2_startPlan_12 : decode cX2_startPlan 12 = .ok (.iload_n 1, 1) := by decide +kernel
theorem dX2_startPlan_13 : decode cX2_startPlan 13 = .ok (.aload_n 0, 1) := by decide +kernel
theorem dX2_startPlan_14 : decode cX2_startPlan 14 = .ok (.getfield 9, 3) := by decide +kernel
theorem dX2_startPlan_17 : decode cX2_startPlan 17 = .ok (.iload_n 1, 1) := by decide +kernel
theorem dX2_startPlan_18 : decode cX2_startPlan 18 = .ok (.iaload, 1) := by decide +kernel
theorem dX2_startPlan_19 : decode cX2_startPlan 19 = .ok (.iastore, 1) := by decide +kernel
theorem dX2_startPlan_20 : decode cX2_startPlan 20 = .ok (.aload_n 0, 1) := by decide +kernel
theorem dX2_startPlan_21 : decode cX2_startPlan 21 = .ok (.getfield 24, 3) := by decide +kernel
theorem dX2_startPlan_24 : decode cX2_startPlan 24 = .ok (.iload_n 1, 1) := by decide +kernel
theorem dX2_startPlan_25 : decode cX2_startPlan 25 = .ok (.aload_n 0, 1) := by decide +kernel
theorem dX2_startPlan_26 : decode cX2_startPlan 26 = .ok (.getfield 15, 3) := by decide +kernel
theorem dX2_startPlan_29 : decode cX2_startPlan 29 = .ok (.iload_n 1, 1) := by decide +kernel
theorem dX2_startPlan_30 : decode cX2_startPlan 30 = .ok (.iaload, 1) := by decide +kernel
theorem dX2_startPlan_31 : decode cX2_startPlan 31 = .ok (.iastore, 1) := by decide +kernel
theorem dX2_startPlan_32 : decode cX2_startPlan 32 = .ok (.aload_n 0, 1) := by decide +kernel
theorem dX2_startPlan_33 : decode cX2_startPlan 33 = .ok (.getfield 27, 3) := by decide +kernel
theorem dX2_startPlan_36 : decode cX2_startPlan 36 = .ok (.iload_n 1, 1) := by decide +kernel
theorem dX2_startPlan_37 : decode cX2_startPlan 37 = .ok (.iconst 0, 1) := by decide +kernel
theorem dX2_startPlan_38 : decode cX2_startPlan 38 = .ok (.iastore, 1) := by decide +kernel
theorem dX2_startPlan_39 : decode cX2_startPlan 39 = .ok (.iinc 1 1, 3) := by decide +kernel
theorem dX2_startPlan_42 : decode cX2_startPlan 42 = .ok (.goto (-40), 3) := by decide +kernel
theorem dX2_startPlan_45 : decode cX2_startPlan 45 = .ok (.aload_n 0, 1) := by decide +kernel
theorem dX2_startPlan_46 : decode cX2_startPlan 46 = .ok (.iconst 0, 1) := by decide +kernel
theorem dX2_startPlan_47 : decode cX2_startPlan 47 = .ok (.putfield 30, 3) := by decide +kernel
theorem dX2_startPlan_50 : decode cX2_startPlan 50 = .ok (.aload_n 0, 1) := by decide +kernel
theorem dX2_startPlan_51 : decode cX2_startPlan 51 = .ok (.iconst 0, 1) := by decide +kernel
theorem dX2_startPlan_52 : decode cX2_startPlan 52 = .ok (.putfield 34, 3) := by decide +kernel
theorem dX2_startPlan_55 : decode cX2_startPlan 55 = .ok (.return_, 1) := by decide +kernel
theorem dX2_planRing_0 : decode cX2_planRing 0 = .ok (.iload_n 1, 1) := by decide +kernel
theorem dX2_planRing_1 : decode cX2_planRing 1 = .ok (.sipush 255, 3) := by decide +kernel
theorem dX2_planRing_4 : decode cX2_planRing 4 = .ok (.if_icmp .ne 10, 3) := by decide +kernel
theorem dX2_planRing_7 : decode cX2_planRing 7 = .ok (.aload_n 0, 1) := by decide +kernel
theorem dX2_planRing_8 : decode cX2_planRing 8 = .ok (.invokevirtual 72, 3) := by decide +kernel
theorem dX2_planRing_11 : decode cX2_planRing 11 = .ok (.ifCond .ne 9, 3) := by decide +kernel
theorem dX2_planRing_14 : decode cX2_planRing 14 = .ok (.aload_n 0, 1) := by decide +kernel
theorem dX2_planRing_15 : decode cX2_planRing 15 = .ok (.iconst 5, 1) := by decide +kernel
theorem dX2_planRing_16 : decode cX2_planRing 16 = .ok (.putfield 30, 3) := by decide +kernel
theorem dX2_planRing_19 : decode cX2_planRing 19 = .ok (.return_, 1) := by decide +kernel
theorem dX2_planRing_20 : decode cX2_planRing 20 = .ok (.iconst 0, 1) := by decide +kernel
theorem dX2_planRing_21 : decode cX2_planRing 21 = .ok (.istore_n 2, 1) := by decide +kernel
theorem dX2_planRing_22 : decode cX2_planRing 22 = .ok (.iload_n 2, 1) := by decide +kernel
theorem dX2_planRing_23 : decode cX2_planRing 23 = .ok (.bipush 8, 2) := by decide +kernel
theorem dX2_planRing_25 : decode cX2_planRing 25 = .ok (.if_icmp .ge 57, 3) := by decide +kernel
theorem dX2_planRing_28 : decode cX2_planRing 28 = .ok (.aload_n 0, 1) := by decide +kernel
theorem dX2_planRing_29 : decode cX2_planRing 29 = .ok (.getfield 18, 3) := by decide +kernel
theorem dX2_planRing_32 : decode cX2_planRing 32 = .ok (.getstatic 75, 3) := by decide +kernel
theorem dX2_planRing_35 : decode cX2_planRing 35 = .ok (.iload_n 2, 1) := by decide +kernel
theorem dX2_planRing_36 : decode cX2_planRing 36 = .ok (.iaload, 1) := by decide +kernel
theorem dX2_planRing_37 : decode cX2_planRing 37 = .ok (.iaload, 1) := by decide +kernel
theorem dX2_planRing_38 : decode cX2_planRing 38 = .ok (.istore_n 3, 1) := by decide +kernel
theorem dX2_planRing_39 : decode cX2_planRing 39 = .ok (.iload_n 2, 1) := by decide +kernel
theorem dX2_planRing_40 : decode cX2_planRing 40 = .ok (.iconst 1, 1) := by decide +kernel
theorem dX2_planRing_41 : decode cX2_planRing 41 = .ok (.iadd, 1) := by decide +kernel
theorem dX2_planRing_42 : decode cX2_planRing 42 = .ok (.bipush 8, 2) := by decide +kernel
theorem dX2_planRing_44 : decode cX2_planRing 44 = .ok (.irem, 1) := by decide +kernel
theorem dX2_planRing_45 : decode cX2_planRing 45 = .ok (.istore 4, 2) := by decide +kernel
theorem dX2_planRing_47 : decode cX2_planRing 47 = .ok (.iload_n 3, 1) := by decide +kernel
theorem dX2_planRing_48 : decode cX2_planRing 48 = .ok (.iconst (-1), 1) := by decide +kernel
theorem dX2_planRing_49 : decode cX2_planRing 49 = .ok (.if_icmp .eq 27, 3) := by decide +kernel
theorem dX2_planRing_52 : decode cX2_planRing 52 = .ok (.aload_n 0, 1) := by decide +kernel
theorem dX2_planRing_53 : decode cX2_planRing 53 = .ok (.getfield 21, 3) := by decide +kernel
theorem dX2_planRing_56 : decode cX2_planRing 56 = .ok (.iload_n 3, 1) := by decide +kernel
theorem dX2_planRing_57 : decode cX2_planRing 57 = .ok (.getstatic 75, 3) := by decide +kernel
theorem dX2_planRing_60 : decode cX2_planRing 60 = .ok (.iload 4, 2) := by decide +kernel
theorem dX2_planRing_62 : decode cX2_planRing 62 = .ok (.iaload, 1) := by decide +kernel
theorem dX2_planRing_63 : decode cX2_planRing 63 = .ok (.iastore, 1) := by decide +kernel
theorem dX2_planRing_64 : decode cX2_planRing 64 = .ok (.aload_n 0, 1) := by decide +kernel
theorem dX2_planRing_65 : decode cX2_planRing 65 = .ok (.getfield 24, 3) := by decide +kernel
theorem dX2_planRing_68 : decode cX2_planRing 68 = .ok (.iload_n 3, 1) := by decide +kernel
theorem dX2_planRing_69 : decode cX2_planRing 69 = .ok (.getstatic 78, 3) := by decide +kernel
theorem dX2_planRing_72 : decode cX2_planRing 72 = .ok (.iload 4, 2) := by decide +kernel
theorem dX2_planRing_74 : decode cX2_planRing 74 = .ok (.iaload, 1) := by decide +kernel
theorem dX2_planRing_75 : decode cX2_planRing 75 = .ok (.iastore, 1) := by decide +kernel
theorem dX2_planRing_76 : decode cX2_planRing 76 = .ok (.iinc 2 1, 3) := by decide +kernel
theorem dX2_planRing_79 : decode cX2_planRing 79 = .ok (.goto (-57), 3) := by decide +kernel
theorem dX2_planRing_82 : decode cX2_planRing 82 = .ok (.aload_n 0, 1) := by decide +kernel
theorem dX2_planRing_83 : decode cX2_planRing 83 = .ok (.bipush 8, 2) := by decide +kernel
theorem dX2_planRing_85 : decode cX2_planRing 85 = .ok (.putfield 34, 3) := by decide +kernel
theorem dX2_planRing_88 : decode cX2_planRing 88 = .ok (.return_, 1) := by decide +kernel
theorem dX2_isRing_0 : decode cX2_isRing 0 = .ok (.iconst 0, 1) := by decide +kernel
theorem dX2_isRing_1 : decode cX2_isRing 1 = .ok (.istore_n 1, 1) := by decide +kernel
theorem dX2_isRing_2 : decode cX2_isRing 2 = .ok (.iload_n 1, 1) := by decide +kernel
theorem dX2_isRing_3 : decode cX2_isRing 3 = .ok (.bipush 8, 2) := by decide +kernel
theorem dX2_isRing_5 : decode cX2_isRing 5 = .ok (.if_icmp .ge 25, 3) := by decide +kernel
theorem dX2_isRing_8 : decode cX2_isRing 8 = .ok (.aload_n 0, 1) := by decide +kernel
theorem dX2_isRing_9 : decode cX2_isRing 9 = .ok (.getfield 18, 3) := by decide +kernel
theorem dX2_isRing_12 : decode cX2_isRing 12 = .ok (.getstatic 75, 3) := by decide +kernel
theorem dX2_isRing_15 : decode cX2_isRing 15 = .ok (.iload_n 1, 1) := by decide +kernel
theorem dX2_isRing_16 : decode cX2_isRing 16 = .ok (.iaload, 1) := by decide +kernel
theorem dX2_isRing_17 : decode cX2_isRing 17 = .ok (.iaload, 1) := by decide +kernel
theorem dX2_isRing_18 : decode cX2_isRing 18 = .ok (.iconst (-1), 1) := by decide +kernel
theorem dX2_isRing_19 : decode cX2_isRing 19 = .ok (.if_icmp .ne 5, 3) := by decide +kernel
theorem dX2_isRing_22 : decode cX2_isRing 22 = .ok (.iconst 0, 1) := by decide +kernel
theorem dX2_isRing_23 : decode cX2_isRing 23 = .ok (.ireturn, 1) := by decide +kernel
theorem dX2_isRing_24 : decode cX2_isRing 24 = .ok (.iinc 1 1, 3) := by decide +kernel
theorem dX2_isRing_27 : decode cX2_isRing 27 = .ok (.goto (-25), 3) := by decide +kernel
theorem dX2_isRing_30 : decode cX2_isRing 30 = .ok (.iconst 1, 1) := by decide +kernel
theorem dX2_isRing_31 : decode cX2_isRing 31 = .ok (.ireturn, 1) := by decide +kernel
theorem dX2_planEach_0 : decode cX2_planEach 0 = .ok (.iconst 0, 1) := by decide +kernel
theorem dX2_planEach_1 : decode cX2_planEach 1 = .ok (.istore_n 3, 1) := by decide +kernel
theorem dX2_planEach_2 : decode cX2_planEach 2 = .ok (.iload_n 3, 1) := by decide +kernel
theorem dX2_planEach_3 : decode cX2_planEach 3 = .ok (.bipush 8, 2) := by decide +kernel
theorem dX2_planEach_5 : decode cX2_planEach 5 = .ok (.if_icmp .ge 135, 3) := by decide +kernel
theorem dX2_planEach_8 : decode cX2_planEach 8 = .ok (.iload_n 3, 1) := by decide +kernel
theorem dX2_planEach_9 : decode cX2_planEach 9 = .ok (.iload_n 1, 1) := by decide +kernel
theorem dX2_planEach_10 : decode cX2_planEach 10 = .ok (.invokestatic 81, 3) := by decide +kernel
theorem dX2_planEach_13 : decode cX2_planEach 13 = .ok (.ifCond .ne 6, 3) := by decide +kernel
theorem dX2_planEach_16 : decode cX2_planEach 16 = .ok (.goto 118, 3) := by decide +kernel
theorem dX2_planEach_19 : decode cX2_planEach 19 = .ok (.aload_n 0, 1) := by decide +kernel
theorem dX2_planEach_20 : decode cX2_planEach 20 = .ok (.dup, 1) := by decide +kernel
theorem dX2_planEach_21 : decode cX2_planEach 21 = .ok (.getfield 34, 3) := by decide +kernel
theorem dX2_planEach_24 : decode cX2_planEach 24 = .ok (.iconst 1, 1) := by decide +kernel
theorem dX2_planEach_25 : decode cX2_planEach 25 = .ok (.iadd, 1) := by decide +kernel
theorem dX2_planEach_26 : decode cX2_planEach 26 = .ok (.putfield 34, 3) := by decide +kernel
theorem dX2_planEach_29 : decode cX2_planEach 29 = .ok (.iload_n 2, 1) := by decide +kernel
theorem dX2_planEach_30 : decode cX2_planEach 30 = .ok (.tableswitch 98 0 3 #[30, 54, 80, 89], 30) := by decide +kernel
theorem dX2_planEach_60 : decode cX2_planEach 60 = .ok (.aload_n 0, 1) := by decide +kernel
theorem dX2_planEach_61 : decode cX2_planEach 61 = .ok (.getfield 21, 3) := by decide +kernel
theorem dX2_planEach_64 : decode cX2_planEach 64 = .ok (.iload_n 3, 1) := by decide +kernel
theorem dX2_planEach_65 : decode cX2_planEach 65 = .ok (.aload_n 0, 1) := by decide +kernel
theorem dX2_planEach_66 : decode cX2_planEach 66 = .ok (.getfield 9, 3) := by decide +kernel
theorem dX2_planEach_69 : decode cX2_planEach 69 = .ok (.iload_n 3, 1) := by decide +kernel
theorem dX2_planEach_70 : decode cX2_planEach 70 = .ok (.iaload, 1) := by decide +kernel
theorem dX2_planEach_71 : decode cX2_planEach 71 = .ok (.aload_n 0, 1) := by decide +kernel
theorem dX2_planEach_72 : decode cX2_planEach 72 = .ok (.getfield 15, 3) := by decide +kernel
theorem dX2_planEach_75 : decode cX2_planEach 75 = .ok (.iload_n 3, 1) := by decide +kernel
theorem dX2_planEach_76 : decode cX2_planEach 76 = .ok (.iaload, 1) := by decide +kernel
theorem dX2_planEach_77 : decode cX2_planEach 77 = .ok (.invokestatic 85, 3) := by decide +kernel
theorem dX2_planEach_80 : decode cX2_planEach 80 = .ok (.iastore, 1) := by decide +kernel
theorem dX2_planEach_81 : decode cX2_planEach 81 = .ok (.goto 53, 3) := by decide +kernel
theorem dX2_planEach_84 : decode cX2_planEach 84 = .ok (.aload_n 0, 1) := by decide +kernel
theorem dX2_planEach_85 : decode cX2_planEach 85 = .ok (.getfield 21, 3) := by decide +kernel
theorem dX2_planEach_88 : decode cX2_planEach 88 = .ok (.iload_n 3, 1) := by decide +kernel
theorem dX2_planEach_89 : decode cX2_planEach 89 = .ok (.aload_n 0, 1) := by decide +kernel
theorem dX2_planEach_90 : decode cX2_planEach 90 = .ok (.getfield 9, 3) := by decide +kernel
theorem dX2_planEach_93 : decode cX2_planEach 93 = .ok (.iload_n 3, 1) := by decide +kernel
theorem dX2_planEach_94 : decode cX2_planEach 94 = .ok (.iaload, 1) := by decide +kernel
theorem dX2_planEach_95 : decode cX2_planEach 95 = .ok (.aload_n 0, 1) := by decide +kernel
theorem dX2_planEach_96 : decode cX2_planEach 96 = .ok (.getfield 15, 3) := by decide +kernel
theorem dX2_planEach_99 : decode cX2_planEach 99 = .ok (.iload_n 3, 1) := by decide +kernel
theorem dX2_planEach_100 : decode cX2_planEach 100 = .ok (.iaload, 1) := by decide +kernel
theorem dX2_planEach_101 : decode cX2_planEach 101 = .ok (.iconst 2, 1) := by decide +kernel
theorem dX2_planEach_102 : decode cX2_planEach 102 = .ok (.iadd, 1) := by decide +kernel
theorem dX2_planEach_103 : decode cX2_planEach 103 = .ok (.invokestatic 85, 3) := by decide +kernel
theorem dX2_planEach_106 : decode cX2_planEach 106 = .ok (.iastore, 1) := by decide +kernel
theorem dX2_planEach_107 : decode cX2_planEach 107 = .ok (.goto 27, 3) := by decide +kernel
theorem dX2_planEach_110 : decode cX2_planEach 110 = .ok (.aload_n 0, 1) := by decide +kernel
theorem dX2_planEach_111 : decode cX2_planEach 111 = .ok (.iload_n 3, 1) := by decide +kernel
theorem dX2_planEach_112 : decode cX2_planEach 112 = .ok (.iconst 3, 1) := by decide +kernel
theorem dX2_planEach_113 : decode cX2_planEach 113 = .ok (.invokevirtual 89, 3) := by decide +kernel
theorem dX2_planEach_116 : decode cX2_planEach 116 = .ok (.goto 18, 3) := by decide +kernel
theorem dX2_planEach_119 : decode cX2_planEach 119 = .ok (.aload_n 0, 1) := by decide +kernel
theorem dX2_planEach_120 : decode cX2_planEach 120 = .ok (.iload_n 3, 1) := by decide +kernel
theorem dX2_planEach_121 : decode cX2_planEach 121 = .ok (.iconst 1, 1) := by decide +kernel
theorem dX2_planEach_122 : decode cX2_planEach 122 = .ok (.invokevirtual 89, 3) := by decide +kernel
theorem dX2_planEach_125 : decode cX2_planEach 125 = .ok (.goto 9, 3) := by decide +kernel
theorem dX2_planEach_128 : decode cX2_planEach 128 = .ok (.aload_n 0, 1) := by decide +kernel
theorem dX2_planEach_129 : decode cX2_planEach 129 = .ok (.iload_n 3, 1) := by decide +kernel
theorem dX2_planEach_130 : decode cX2_planEach 130 = .ok (.iconst 2, 1) := by decide +kernel
theorem dX2_planEach_131 : decode cX2_planEach 131 = .ok (.invokevirtual 89, 3) := by decide +kernel
theorem dX2_planEach_134 : decode cX2_planEach 134 = .ok (.iinc 3 1, 3) := by decide +kernel
theorem dX2_planEach_137 : decode cX2_planEach 137 = .ok (.goto (-135), 3) := by decide +kernel
theorem dX2_planEach_140 : decode cX2_planEach 140 = .ok (.return_, 1) := by decide +kernel
theorem dX2_planPairs_0 : decode cX2_planPairs 0 = .ok (.iload_n 1, 1) := by decide +kernel
theorem dX2_planPairs_1 : decode cX2_planPairs 1 = .ok (.istore_n 3, 1) := by decide +kernel
theorem dX2_planPairs_2 : decode cX2_planPairs 2 = .ok (.iconst 0, 1) := by decide +kernel
theorem dX2_planPairs_3 : decode cX2_planPairs 3 = .ok (.istore 4, 2) := by decide +kernel
theorem dX2_planPairs_5 : decode cX2_planPairs 5 = .ok (.iload 4, 2) := by decide +kernel
theorem dX2_planPairs_7 : decode cX2_planPairs 7 = .ok (.bipush 8, 2) := by decide +kernel
theorem dX2_planPairs_9 : decode cX2_planPairs 9 = .ok (.if_icmp .ge 91, 3) := by decide +kernel
theorem dX2_planPairs_12 : decode cX2_planPairs 12 = .ok (.iload 4, 2) := by decide +kernel
theorem dX2_planPairs_14 : decode cX2_planPairs 14 = .ok (.iload_n 3, 1) := by decide +kernel
theorem dX2_planPairs_15 : decode cX2_planPairs 15 = .ok (.invokestatic 81, 3) := by decide +kernel
theorem dX2_planPairs_18 : decode cX2_planPairs 18 = .ok (.ifCond .eq 14, 3) := by decide +kernel
theorem dX2_planPairs_21 : decode cX2_planPairs 21 = .ok (.aload_n 0, 1) := by decide +kernel
theorem dX2_planPairs_22 : decode cX2_planPairs 22 = .ok (.iload 4, 2) := by decide +kernel
theorem dX2_planPairs_24 : decode cX2_planPairs 24 = .ok (.iload_n 3, 1) := by decide +kernel
theorem dX2_planPairs_25 : decode cX2_planPairs 25 = .ok (.iload_n 2, 1) := by decide +kernel
theorem dX2_planPairs_26 : decode cX2_planPairs 26 = .ok (.invokevirtual 92, 3) := by decide +kernel
theorem dX2_planPairs_29 : decode cX2_planPairs 29 = .ok (.goto 4, 3) := by decide +kernel
theorem dX2_planPairs_32 : decode cX2_planPairs 32 = .ok (.iconst (-1), 1) := by decide +kernel
theorem dX2_planPairs_33 : decode cX2_planPairs 33 = .ok (.istore 5, 2) := by decide +kernel
theorem dX2_planPairs_35 : decode cX2_planPairs 35 = .ok (.iload 5, 2) := by decide +kernel
theorem dX2_planPairs_37 : decode cX2_planPairs 37 = .ok (.iconst (-1), 1) := by decide +kernel
theorem dX2_planPairs_38 : decode cX2_planPairs 38 = .ok (.if_icmp .ne 6, 3) := by decide +kernel
theorem dX2_planPairs_41 : decode cX2_planPairs 41 = .ok (.goto 53, 3) := by decide +kernel
theorem dX2_planPairs_44 : decode cX2_planPairs 44 = .ok (.iload_n 3, 1) := by decide +kernel
theorem dX2_planPairs_45 : decode cX2_planPairs 45 = .ok (.iconst 1, 1) := by decide +kernel
theorem dX2_planPairs_46 : decode cX2_planPairs 46 = .ok (.iload 4, 2) := by decide +kernel
theorem dX2_planPairs_48 : decode cX2_planPairs 48 = .ok (.ishl, 1) := by decide +kernel
theorem dX2_planPairs_49 : decode cX2_planPairs 49 = .ok (.iconst 1, 1) := by decide +kernel
theorem dX2_planPairs_50 : decode cX2_planPairs 50 = .ok (.iload 5, 2) := by decide +kernel
theorem dX2_planPairs_52 : decode cX2_planPairs 52 = .ok (.ishl, 1) := by decide +kernel
theorem dX2_planPairs_53 : decode cX2_planPairs 53 = .ok (.ior, 1) := by decide +kernel
theorem dX2_planPairs_54 : decode cX2_planPairs 54 = .ok (.iconst (-1), 1) := by decide +kernel
theorem dX2_planPairs_55 : decode cX2_planPairs 55 = .ok (.ixor, 1) := by decide +kernel
theorem dX2_planPairs_56 : decode cX2_planPairs 56 = .ok (.iand, 1) := by decide +kernel
theorem dX2_planPairs_57 : decode cX2_planPairs 57 = .ok (.istore_n 3, 1) := by decide +kernel
theorem dX2_planPairs_58 : decode cX2_planPairs 58 = .ok (.aload_n 0, 1) := by decide +kernel
theorem dX2_planPairs_59 : decode cX2_planPairs 59 = .ok (.dup, 1) := by decide +kernel
theorem dX2_planPairs_60 : decode cX2_planPairs 60 = .ok (.getfield 34, 3) := by decide +kernel
theorem dX2_planPairs_63 : decode cX2_planPairs 63 = .ok (.iconst 1, 1) := by decide +kernel
theorem dX2_planPairs_64 : decode cX2_planPairs 64 = .ok (.iadd, 1) := by decide +kernel
theorem dX2_planPairs_65 : decode cX2_planPairs 65 = .ok (.putfield 34, 3) := by decide +kernel
theorem dX2_planPairs_68 : decode cX2_planPairs 68 = .ok (.iload_n 2, 1) := by decide +kernel
theorem dX2_planPairs_69 : decode cX2_planPairs 69 = .ok (.bipush 10, 2) := by decide +kernel
theorem dX2_planPairs_71 : decode cX2_planPairs 71 = .ok (.if_icmp .ne 14, 3) := by decide +kernel
theorem dX2_planPairs_74 : decode cX2_planPairs 74 = .ok (.aload_n 0, 1) := by decide +kernel
theorem dX2_planPairs_75 : decode cX2_planPairs 75 = .ok (.iload 4, 2) := by decide +kernel
theorem dX2_planPairs_77 : decode cX2_planPairs 77 = .ok (.iload 5, 2) := by decide +kernel
theorem dX2_planPairs_79 : decode cX2_planPairs 79 = .ok (.invokevirtual 96, 3) := by decide +kernel
theorem dX2_planPairs_82 : decode cX2_planPairs 82 = .ok (.goto 12, 3) := by decide +kernel
theorem dX2_planPairs_85 : decode cX2_planPairs 85 = .ok (.aload_n 0, 1) := by decide +kernel
theorem dX2_planPairs_86 : decode cX2_planPairs 86 = .ok (.iload 4, 2) := by decide +kernel
theorem dX2_planPairs_88 : decode cX2_planPairs 88 = .ok (.iload 5, 2) := by decide +kernel
theorem dX2_planPairs_90 : decode cX2_planPairs 90 = .ok (.iload_n 2, 1) := by decide +kernel
theorem dX2_planPairs_91 : decode cX2_planPairs 91 = .ok (.invokevirtual 99, 3) := by decide +kernel
theorem dX2_planPairs_94 : decode cX2_planPairs 94 = .ok (.iinc 4 1, 3) := by decide +kernel
theorem dX2_planPairs_97 : decode cX2_planPairs 97 = .ok (.goto (-92), 3) := by decide +kernel
theorem dX2_planPairs_100 : decode cX2_planPairs 100 = .ok (.aload_n 0, 1) := by decide +kernel
theorem dX2_planPairs_101 : decode cX2_planPairs 101 = .ok (.getfield 34, 3) := by decide +kernel
theorem dX2_planPairs_104 : decode cX2_planPairs 104 = .ok (.ifCond .ne 8, 3) := by decide +kernel
theorem dX2_planPairs_107 : decode cX2_planPairs 107 = .ok (.aload_n 0, 1) := by decide +kernel
theorem dX2_planPairs_108 : decode cX2_planPairs 108 = .ok (.iconst 4, 1) := by decide +kernel
theorem dX2_planPairs_109 : decode cX2_planPairs 109 = .ok (.putfield 30, 3) := by decide +kernel
theorem dX2_planPairs_112 : decode cX2_planPairs 112 = .ok (.return_, 1) := by decide +kernel
theorem dX2_partnerOf_0 : decode cX2_partnerOf 0 = .ok (.iload_n 3, 1) := by decide +kernel
theorem dX2_partnerOf_1 : decode cX2_partnerOf 1 = .ok (.iconst 5, 1) := by decide +kernel
theorem dX2_partnerOf_2 : decode cX2_partnerOf 2 = .ok (.if_icmp .eq 15, 3) := by decide +kernel
theorem dX2_partnerOf_5 : decode cX2_partnerOf 5 = .ok (.iload_n 3, 1) := by decide +kernel
theorem dX2_partnerOf_6 : decode cX2_partnerOf 6 = .ok (.bipush 6, 2) := by decide +kernel
theorem dX2_partnerOf_8 : decode cX2_partnerOf 8 = .ok (.if_icmp .eq 9, 3) := by decide +kernel
theorem dX2_partnerOf_11 : decode cX2_partnerOf 11 = .ok (.iload_n 3, 1) := by decide +kernel
theorem dX2_partnerOf_12 : decode cX2_partnerOf 12 = .ok (.bipush 7, 2) := by decide +kernel
theorem dX2_partnerOf_14 : decode cX2_partnerOf 14 = .ok (.if_icmp .ne 75, 3) := by decide +kernel
theorem dX2_partnerOf_17 : decode cX2_partnerOf 17 = .ok (.aload_n 0, 1) := by decide +kernel
theorem dX2_partnerOf_18 : decode cX2_partnerOf 18 = .ok (.iload_n 1, 1) := by decide +kernel
theorem dX2_partnerOf_19 : decode cX2_partnerOf 19 = .ok (.iconst 0, 1) := by decide +kernel
theorem dX2_partnerOf_20 : decode cX2_partnerOf 20 = .ok (.invokevirtual 103, 3) := by decide +kernel
theorem dX2_partnerOf_23 : decode cX2_partnerOf 23 = .ok (.istore 4, 2) := by decide +kernel
theorem dX2_partnerOf_25 : decode cX2_partnerOf 25 = .ok (.iload 4, 2) := by decide +kernel
theorem dX2_partnerOf_27 : decode cX2_partnerOf 27 = .ok (.iload_n 2, 1) := by decide +kernel
theorem dX2_partnerOf_28 : decode cX2_partnerOf 28 = .ok (.invokestatic 81, 3) := by decide +kernel
theorem dX2_partnerOf_31 : decode cX2_partnerOf 31 = .ok (.ifCond .eq 43, 3) := by decide +kernel
theorem dX2_partnerOf_34 : decode cX2_partnerOf 34 = .ok (.aload_n 0, 1) := by decide +kernel
theorem dX2_partnerOf_35 : decode cX2_partnerOf 35 = .ok (.getfield 15, 3) := by decide +kernel
theorem dX2_partnerOf_38 : decode cX2_partnerOf 38 = .ok (.iload 4, 2) := by decide +kernel
theorem dX2_partnerOf_40 : decode cX2_partnerOf 40 = .ok (.iaload, 1) := by decide +kernel
theorem dX2_partnerOf_41 : decode cX2_partnerOf 41 = .ok (.aload_n 0, 1) := by decide +kernel
theorem dX2_partnerOf_42 : decode cX2_partnerOf 42 = .ok (.getfield 15, 3) := by decide +kernel
theorem dX2_partnerOf_45 : decode cX2_partnerOf 45 = .ok (.iload_n 1, 1) := by decide +kernel
theorem dX2_partnerOf_46 : decode cX2_partnerOf 46 = .ok (.iaload, 1) := by decide +kernel
theorem dX2_partnerOf_47 : decode cX2_partnerOf 47 = .ok (.iconst 2, 1) := by decide +kernel
theorem dX2_partnerOf_48 : decode cX2_partnerOf 48 = .ok (.iadd, 1) := by decide +kernel
theorem dX2_partnerOf_49 : decode cX2_partnerOf 49 = .ok (.iconst 4, 1) := by decide +kernel
theorem dX2_partnerOf_50 : decode cX2_partnerOf 50 = .ok (.irem, 1) := by decide +kernel
theorem dX2_partnerOf_51 : decode cX2_partnerOf 51 = .ok (.if_icmp .ne 23, 3) := by decide +kernel
theorem dX2_partnerOf_54 : decode cX2_partnerOf 54 = .ok (.iload_n 3, 1) := by decide +kernel
theorem dX2_partnerOf_55 : decode cX2_partnerOf 55 = .ok (.bipush 6, 2) := by decide +kernel
theorem dX2_partnerOf_57 : decode cX2_partnerOf 57 = .ok (.if_icmp .ne 13, 3) := by decide +kernel
theorem dX2_partnerOf_60 : decode cX2_partnerOf 60 = .ok (.iload 4, 2) := by decide +kernel
theorem dX2_partnerOf_62 : decode cX2_partnerOf 62 = .ok (.iconst 2, 1) := by decide +kernel
theorem dX2_partnerOf_63 : decode cX2_partnerOf 63 = .ok (.irem, 1) := by decide +kernel
theorem dX2_partnerOf_64 : decode cX2_partnerOf 64 = .ok (.iload_n 1, 1) := by decide +kernel
theorem dX2_partnerOf_65 : decode cX2_partnerOf 65 = .ok (.iconst 2, 1) := by decide +kernel
theorem dX2_partnerOf_66 : decode cX2_partnerOf 66 = .ok (.irem, 1) := by decide +kernel
theorem dX2_partnerOf_67 : decode cX2_partnerOf 67 = .ok (.if_icmp .eq 7, 3) := by decide +kernel
theorem dX2_partnerOf_70 : decode cX2_partnerOf 70 = .ok (.iconst 1, 1) := by decide +kernel
theorem dX2_partnerOf_71 : decode cX2_partnerOf 71 = .ok (.goto 4, 3) := by decide +kernel
theorem dX2_partnerOf_74 : decode cX2_partnerOf 74 = .ok (.iconst 0, 1) := by decide +kernel
theorem dX2_partnerOf_75 : decode cX2_partnerOf 75 = .ok (.istore 5, 2) := by decide +kernel
theorem dX2_partnerOf_77 : decode cX2_partnerOf 77 = .ok (.iload 5, 2) := by decide +kernel
theorem dX2_partnerOf_79 : decode cX2_partnerOf 79 = .ok (.ifCond .eq 8, 3) := by decide +kernel
theorem dX2_partnerOf_82 : decode cX2_partnerOf 82 = .ok (.iload 4, 2) := by decide +kernel
theorem dX2_partnerOf_84 : decode cX2_partnerOf 84 = .ok (.goto 4, 3) := by decide +kernel
theorem dX2_partnerOf_87 : decode cX2_partnerOf 87 = .ok (.iconst (-1), 1) := by decide +kernel
theorem dX2_partnerOf_88 : decode cX2_partnerOf 88 = .ok (.ireturn, 1) := by decide +kernel
theorem dX2_partnerOf_89 : decode cX2_partnerOf 89 = .ok (.aload_n 0, 1) := by decide +kernel
theorem dX2_partnerOf_90 : decode cX2_partnerOf 90 = .ok (.iload_n 1, 1) := by decide +kernel
theorem dX2_partnerOf_91 : decode cX2_partnerOf 91 = .ok (.iconst 1, 1) := by decide +kernel
theorem dX2_partnerOf_92 : decode cX2_partnerOf 92 = .ok (.invokevirtual 103, 3) := by decide +kernel
theorem dX2_partnerOf_95 : decode cX2_partnerOf 95 = .ok (.istore 4, 2) := by decide +kernel
theorem dX2_partnerOf_97 : decode cX2_partnerOf 97 = .ok (.iload 4, 2) := by decide +kernel
theorem dX2_partnerOf_99 : decode cX2_partnerOf 99 = .ok (.iload_n 2, 1) := by decide +kernel
theorem dX2_partnerOf_100 : decode cX2_partnerOf 100 = .ok (.invokestatic 81, 3) := by decide +kernel
theorem dX2_partnerOf_103 : decode cX2_partnerOf 103 = .ok (.ifCond .eq 22, 3) := by decide +kernel
theorem dX2_partnerOf_106 : decode cX2_partnerOf 106 = .ok (.aload_n 0, 1) := by decide +kernel
theorem dX2_partnerOf_107 : decode cX2_partnerOf 107 = .ok (.getfield 15, 3) := by decide +kernel
theorem dX2_partnerOf_110 : decode cX2_partnerOf 110 = .ok (.iload 4, 2) := by decide +kernel
theorem dX2_partnerOf_112 : decode cX2_partnerOf 112 = .ok (.iaload, 1) := by decide +kernel
theorem dX2_partnerOf_113 : decode cX2_partnerOf 113 = .ok (.aload_n 0, 1) := by decide +kernel
theorem dX2_partnerOf_114 : decode cX2_partnerOf 114 = .ok (.getfield 15, 3) := by decide +kernel
theorem dX2_partnerOf_117 : decode cX2_partnerOf 117 = .ok (.iload_n 1, 1) := by decide +kernel
theorem dX2_partnerOf_118 : decode cX2_partnerOf 118 = .ok (.iaload, 1) := by decide +kernel
theorem dX2_partnerOf_119 : decode cX2_partnerOf 119 = .ok (.if_icmp .ne 6, 3) := by decide +kernel
theorem dX2_partnerOf_122 : decode cX2_partnerOf 122 = .ok (.iload 4, 2) := by decide +kernel
theorem dX2_partnerOf_124 : decode cX2_partnerOf 124 = .ok (.ireturn, 1) := by decide +kernel
theorem dX2_partnerOf_125 : decode cX2_partnerOf 125 = .ok (.aload_n 0, 1) := by decide +kernel
theorem dX2_partnerOf_126 : decode cX2_partnerOf 126 = .ok (.iload_n 1, 1) := by decide +kernel
theorem dX2_partnerOf_127 : decode cX2_partnerOf 127 = .ok (.iconst 3, 1) := by decide +kernel
theorem dX2_partnerOf_128 : decode cX2_partnerOf 128 = .ok (.invokevirtual 103, 3) := by decide +kernel
theorem dX2_partnerOf_131 : decode cX2_partnerOf 131 = .ok (.istore 5, 2) := by decide +kernel
theorem dX2_partnerOf_133 : decode cX2_partnerOf 133 = .ok (.iload 5, 2) := by decide +kernel
theorem dX2_partnerOf_135 : decode cX2_partnerOf 135 = .ok (.iload_n 2, 1) := by decide +kernel
theorem dX2_partnerOf_136 : decode cX2_partnerOf 136 = .ok (.invokestatic 81, 3) := by decide +kernel
theorem dX2_partnerOf_139 : decode cX2_partnerOf 139 = .ok (.ifCond .eq 24, 3) := by decide +kernel
theorem dX2_partnerOf_142 : decode cX2_partnerOf 142 = .ok (.aload_n 0, 1) := by decide +kernel
theorem dX2_partnerOf_143 : decode cX2_partnerOf 143 = .ok (.getfield 15, 3) := by decide +kernel
theorem dX2_partnerOf_146 : decode cX2_partnerOf 146 = .ok (.iload 5, 2) := by decide +kernel
theorem dX2_partnerOf_148 : decode cX2_partnerOf 148 = .ok (.iaload, 1) := by decide +kernel
theorem dX2_partnerOf_149 : decode cX2_partnerOf 149 = .ok (.aload_n 0, 1) := by decide +kernel
theorem dX2_partnerOf_150 : decode cX2_partnerOf 150 = .ok (.getfield 15, 3) := by decide +kernel
theorem dX2_partnerOf_153 : decode cX2_partnerOf 153 = .ok (.iload_n 1, 1) := by decide +kernel
theorem dX2_partnerOf_154 : decode cX2_partnerOf 154 = .ok (.iaload, 1) := by decide +kernel
theorem dX2_partnerOf_155 : decode cX2_partnerOf 155 = .ok (.if_icmp .ne 8, 3) := by decide +kernel
theorem dX2_partnerOf_158 : decode cX2_partnerOf 158 = .ok (.iload 5, 2) := by decide +kernel
theorem dX2_partnerOf_160 : decode cX2_partnerOf 160 = .ok (.goto 4, 3) := by decide +kernel
theorem dX2_partnerOf_163 : decode cX2_partnerOf 163 = .ok (.iconst (-1), 1) := by decide +kernel
theorem dX2_partnerOf_164 : decode cX2_partnerOf 164 = .ok (.ireturn, 1) := by decide +kernel
theorem dX2_planFold_0 : decode cX2_planFold 0 = .ok (.aload_n 0, 1) := by decide +kernel
theorem dX2_planFold_1 : decode cX2_planFold 1 = .ok (.iload_n 1, 1) := by decide +kernel
theorem dX2_planFold_2 : decode cX2_planFold 2 = .ok (.iconst 1, 1) := by decide +kernel
theorem dX2_planFold_3 : decode cX2_planFold 3 = .ok (.invokevirtual 103, 3) := by decide +kernel
theorem dX2_planFold_6 : decode cX2_planFold 6 = .ok (.iload_n 2, 1) := by decide +kernel
theorem dX2_planFold_7 : decode cX2_planFold 7 = .ok (.if_icmp .ne 7, 3) := by decide +kernel
theorem dX2_planFold_10 : decode cX2_planFold 10 = .ok (.iconst 1, 1) := by decide +kernel
theorem dX2_planFold_11 : decode cX2_planFold 11 = .ok (.goto 4, 3) := by decide +kernel
theorem dX2_planFold_14 : decode cX2_planFold 14 = .ok (.iconst 0, 1) := by decide +kernel
theorem dX2_planFold_15 : decode cX2_planFold 15 = .ok (.istore_n 3, 1) := by decide +kernel
theorem dX2_planFold_16 : decode cX2_planFold 16 = .ok (.iload_n 3, 1) := by decide +kernel
theorem dX2_planFold_17 : decode cX2_planFold 17 = .ok (.ifCond .eq 7, 3) := by decide +kernel
theorem dX2_planFold_20 : decode cX2_planFold 20 = .ok (.iload_n 1, 1) := by decide +kernel
theorem dX2_planFold_21 : decode cX2_planFold 21 = .ok (.goto 4, 3) := by decide +kernel
theorem dX2_planFold_24 : decode cX2_planFold 24 = .ok (.iload_n 2, 1) := by decide +kernel
theorem dX2_planFold_25 : decode cX2_planFold 25 = .ok (.istore 4, 2) := by decide +kernel
theorem dX2_planFold_27 : decode cX2_planFold 27 = .ok (.iload_n 3, 1) := by decide +kernel
theorem dX2_planFold_28 : decode cX2_planFold 28 = .ok (.ifCond .eq 7, 3) := by decide +kernel
theorem dX2_planFold_31 : decode cX2_planFold 31 = .ok (.iload_n 2, 1) := by decide +kernel
theorem dX2_planFold_32 : decode cX2_planFold 32 = .ok (.goto 4, 3) := by decide +kernel
theorem dX2_planFold_35 : decode cX2_planFold 35 = .ok (.iload_n 1, 1) := by decide +kernel
theorem dX2_planFold_36 : decode cX2_planFold 36 = .ok (.istore 5, 2) := by decide +kernel
theorem dX2_planFold_38 : decode cX2_planFold 38 = .ok (.aload_n 0, 1) := by decide +kernel
theorem dX2_planFold_39 : decode cX2_planFold 39 = .ok (.getfield 21, 3) := by decide +kernel
theorem dX2_planFold_42 : decode cX2_planFold 42 = .ok (.iload 5, 2) := by decide +kernel
theorem dX2_planFold_44 : decode cX2_planFold 44 = .ok (.aload_n 0, 1) := by decide +kernel
theorem dX2_planFold_45 : decode cX2_planFold 45 = .ok (.getfield 9, 3) := by decide +kernel
theorem dX2_planFold_48 : decode cX2_planFold 48 = .ok (.iload 4, 2) := by decide +kernel
theorem dX2_planFold_50 : decode cX2_planFold 50 = .ok (.iaload, 1) := by decide +kernel
theorem dX2_planFold_51 : decode cX2_planFold 51 = .ok (.aload_n 0, 1) := by decide +kernel
theorem dX2_planFold_52 : decode cX2_planFold 52 = .ok (.getfield 15, 3) := by decide +kernel
theorem dX2_planFold_55 : decode cX2_planFold 55 = .ok (.iload 4, 2) := by decide +kernel
theorem dX2_planFold_57 : decode cX2_planFold 57 = .ok (.iaload, 1) := by decide +kernel
theorem dX2_planFold_58 : decode cX2_planFold 58 = .ok (.invokestatic 85, 3) := by decide +kernel
theorem dX2_planFold_61 : decode cX2_planFold 61 = .ok (.iastore, 1) := by decide +kernel
theorem dX2_planFold_62 : decode cX2_planFold 62 = .ok (.aload_n 0, 1) := by decide +kernel
theorem dX2_planFold_63 : decode cX2_planFold 63 = .ok (.iload 5, 2) := by decide +kernel
theorem dX2_planFold_65 : decode cX2_planFold 65 = .ok (.iconst 2, 1) := by decide +kernel
theorem dX2_planFold_66 : decode cX2_planFold 66 = .ok (.invokevirtual 89, 3) := by decide +kernel
theorem dX2_planFold_69 : decode cX2_planFold 69 = .ok (.return_, 1) := by decide +kernel
theorem dX2_planChange_0 : decode cX2_planChange 0 = .ok (.aload_n 0, 1) := by decide +kernel
theorem dX2_planChange_1 : decode cX2_planChange 1 = .ok (.getfield 21, 3) := by decide +kernel
theorem dX2_planChange_4 : decode cX2_planChange 4 = .ok (.iload_n 1, 1) := by decide +kernel
theorem dX2_planChange_5 : decode cX2_planChange 5 = .ok (.aload_n 0, 1) := by decide +kernel
theorem dX2_planChange_6 : decode cX2_planChange 6 = .ok (.getfield 9, 3) := by decide +kernel
theorem dX2_planChange_9 : decode cX2_planChange 9 = .ok (.iload_n 2, 1) := by decide +kernel
theorem dX2_planChange_10 : decode cX2_planChange 10 = .ok (.iaload, 1) := by decide +kernel
theorem dX2_planChange_11 : decode cX2_planChange 11 = .ok (.iastore, 1) := by decide +kernel
theorem dX2_planChange_12 : decode cX2_planChange 12 = .ok (.aload_n 0, 1) := by decide +kernel
theorem dX2_planChange_13 : decode cX2_planChange 13 = .ok (.getfield 21, 3) := by decide +kernel
theorem dX2_planChange_16 : decode cX2_planChange 16 = .ok (.iload_n 2, 1) := by decide +kernel
theorem dX2_planChange_17 : decode cX2_planChange 17 = .ok (.aload_n 0, 1) := by decide +kernel
theorem dX2_planChange_18 : decode cX2_planChange 18 = .ok (.getfield 9, 3) := by decide +kernel
theorem dX2_planChange_21 : decode cX2_planChange 21 = .ok (.iload_n 1, 1) := by decide +kernel
theorem dX2_planChange_22 : decode cX2_planChange 22 = .ok (.iaload, 1) := by decide +kernel
theorem dX2_planChange_23 : decode cX2_planChange 23 = .ok (.iastore, 1) := by decide +kernel
theorem dX2_planChange_24 : decode cX2_planChange 24 = .ok (.iload_n 3, 1) := by decide +kernel
theorem dX2_planChange_25 : decode cX2_planChange 25 = .ok (.bipush 6, 2) := by decide +kernel
theorem dX2_planChange_27 : decode cX2_planChange 27 = .ok (.if_icmp .ne 38, 3) := by decide +kernel
theorem dX2_planChange_30 : decode cX2_planChange 30 = .ok (.aload_n 0, 1) := by decide +kernel
theorem dX2_planChange_31 : decode cX2_planChange 31 = .ok (.iload_n 1, 1) := by decide +kernel
theorem dX2_planChange_32 : decode cX2_planChange 32 = .ok (.iload_n 1, 1) := by decide +kernel
theorem dX2_planChange_33 : decode cX2_planChange 33 = .ok (.iconst 2, 1) := by decide +kernel
theorem dX2_planChange_34 : decode cX2_planChange 34 = .ok (.irem, 1) := by decide +kernel
theorem dX2_planChange_35 : decode cX2_planChange 35 = .ok (.ifCond .ne 7, 3) := by decide +kernel
theorem dX2_planChange_38 : decode cX2_planChange 38 = .ok (.iconst 1, 1) := by decide +kernel
theorem dX2_planChange_39 : decode cX2_planChange 39 = .ok (.goto 4, 3) := by decide +kernel
theorem dX2_planChange_42 : decode cX2_planChange 42 = .ok (.iconst 3, 1) := by decide +kernel
theorem dX2_planChange_43 : decode cX2_planChange 43 = .ok (.invokevirtual 89, 3) := by decide +kernel
theorem dX2_planChange_46 : decode cX2_planChange 46 = .ok (.aload_n 0, 1) := by decide +kernel
theorem dX2_planChange_47 : decode cX2_planChange 47 = .ok (.iload_n 2, 1) := by decide +kernel
theorem dX2_planChange_48 : decode cX2_planChange 48 = .ok (.iload_n 2, 1) := by decide +kernel
theorem dX2_planChange_49 : decode cX2_planChange 49 = .ok (.iconst 2, 1) := by decide +kernel
theorem dX2_planChange_50 : decode cX2_planChange 50 = .ok (.irem, 1) := by decide +kernel
theorem dX2_planChange_51 : decode cX2_planChange 51 = .ok (.ifCond .ne 7, 3) := by decide +kernel
theorem dX2_planChange_54 : decode cX2_planChange 54 = .ok (.iconst 1, 1) := by decide +kernel
theorem dX2_planChange_55 : decode cX2_planChange 55 = .ok (.goto 4, 3) := by decide +kernel
theorem dX2_planChange_58 : decode cX2_planChange 58 = .ok (.iconst 3, 1) := by decide +kernel
theorem dX2_planChange_59 : decode cX2_planChange 59 = .ok (.invokevirtual 89, 3) := by decide +kernel
theorem dX2_planChange_62 : decode cX2_planChange 62 = .ok (.goto 42, 3) := by decide +kernel
theorem dX2_planChange_65 : decode cX2_planChange 65 = .ok (.iload_n 3, 1) := by decide +kernel
theorem dX2_planChange_66 : decode cX2_planChange 66 = .ok (.bipush 7, 2) := by decide +kernel
theorem dX2_planChange_68 : decode cX2_planChange 68 = .ok (.if_icmp .ne 18, 3) := by decide +kernel
theorem dX2_planChange_71 : decode cX2_planChange 71 = .ok (.aload_n 0, 1) := by decide +kernel
theorem dX2_planChange_72 : decode cX2_planChange 72 = .ok (.iload_n 1, 1) := by decide +kernel
theorem dX2_planChange_73 : decode cX2_planChange 73 = .ok (.iconst 1, 1) := by decide +kernel
theorem dX2_planChange_74 : decode cX2_planChange 74 = .ok (.invokevirtual 89, 3) := by decide +kernel
theorem dX2_planChange_77 : decode cX2_planChange 77 = .ok (.aload_n 0, 1) := by decide +kernel
theorem dX2_planChange_78 : decode cX2_planChange 78 = .ok (.iload_n 2, 1) := by decide +kernel
theorem dX2_planChange_79 : decode cX2_planChange 79 = .ok (.iconst 1, 1) := by decide +kernel
theorem dX2_planChange_80 : decode cX2_planChange 80 = .ok (.invokevirtual 89, 3) := by decide +kernel
theorem dX2_planChange_83 : decode cX2_planChange 83 = .ok (.goto 21, 3) := by decide +kernel
theorem dX2_planChange_86 : decode cX2_planChange 86 = .ok (.iload_n 3, 1) := by decide +kernel
theorem dX2_planChange_87 : decode cX2_planChange 87 = .ok (.bipush 9, 2) := by decide +kernel
theorem dX2_planChange_89 : decode cX2_planChange 89 = .ok (.if_icmp .ne 15, 3) := by decide +kernel
theorem dX2_planChange_92 : decode cX2_planChange 92 = .ok (.aload_n 0, 1) := by decide +kernel
theorem dX2_planChange_93 : decode cX2_planChange 93 = .ok (.iload_n 1, 1) := by decide +kernel
theorem dX2_planChange_94 : decode cX2_planChange 94 = .ok (.iconst 2, 1) := by decide +kernel
theorem dX2_planChange_95 : decode cX2_planChange 95 = .ok (.invokevirtual 89, 3) := by decide +kernel
theorem dX2_planChange_98 : decode cX2_planChange 98 = .ok (.aload_n 0, 1) := by decide +kernel
theorem dX2_planChange_99 : decode cX2_planChange 99 = .ok (.iload_n 2, 1) := by decide +kernel
theorem dX2_planChange_100 : decode cX2_planChange 100 = .ok (.iconst 2, 1) := by decide +kernel
theorem dX2_planChange_101 : decode cX2_planChange 101 = .ok (.invokevirtual 89, 3) := by decide +kernel
theorem dX2_planChange_104 : decode cX2_planChange 104 = .ok (.return_, 1) := by decide +kernel
theorem dX2_turn_0 : decode cX2_turn 0 = .ok (.aload_n 0, 1) := by decide +kernel
theorem dX2_turn_1 : decode cX2_turn 1 = .ok (.getfield 24, 3) := by decide +kernel
theorem dX2_turn_4 : decode cX2_turn 4 = .ok (.iload_n 1, 1) := by decide +kernel
theorem dX2_turn_5 : decode cX2_turn 5 = .ok (.aload_n 0, 1) := by decide +kernel
theorem dX2_turn_6 : decode cX2_turn 6 = .ok (.getfield 15, 3) := by decide +kernel
theorem dX2_turn_9 : decode cX2_turn 9 = .ok (.iload_n 1, 1) := by decide +kernel
theorem dX2_turn_10 : decode cX2_turn 10 = .ok (.iaload, 1) := by decide +kernel
theorem dX2_turn_11 : decode cX2_turn 11 = .ok (.iload_n 2, 1) := by decide +kernel
theorem dX2_turn_12 : decode cX2_turn 12 = .ok (.iadd, 1) := by decide +kernel
theorem dX2_turn_13 : decode cX2_turn 13 = .ok (.iconst 4, 1) := by decide +kernel
theorem dX2_turn_14 : decode cX2_turn 14 = .ok (.irem, 1) := by decide +kernel
theorem dX2_turn_15 : decode cX2_turn 15 = .ok (.iastore, 1) := by decide +kernel
theorem dX2_turn_16 : decode cX2_turn 16 = .ok (.return_, 1) := by decide +kernel
theorem dX2_someFall_0 : decode cX2_someFall 0 = .ok (.iconst 0, 1) := by decide +kernel
theorem dX2_someFall_1 : decode cX2_someFall 1 = .ok (.istore_n 1, 1) := by decide +kernel
theorem dX2_someFall_2 : decode cX2_someFall 2 = .ok (.iconst 0, 1) := by decide +kernel
theorem dX2_someFall_3 : decode cX2_someFall 3 = .ok (.istore_n 2, 1) := by decide +kernel
theorem dX2_someFall_4 : decode cX2_someFall 4 = .ok (.iload_n 2, 1) := by decide +kernel
theorem dX2_someFall_5 : decode cX2_someFall 5 = .ok (.bipush 8, 2) := by decide +kernel
theorem dX2_someFall_7 : decode cX2_someFall 7 = .ok (.if_icmp .ge 49, 3) := by decide +kernel
theorem dX2_someFall_10 : decode cX2_someFall 10 = .ok (.aload_n 0, 1) := by decide +kernel
theorem dX2_someFall_11 : decode cX2_someFall 11 = .ok (.getfield 27, 3) := by decide +kernel
theorem dX2_someFall_14 : decode cX2_someFall 14 = .ok (.iload_n 2, 1) := by decide +kernel
theorem dX2_someFall_15 : decode cX2_someFall 15 = .ok (.aload_n 0, 1) := by decide +kernel
theorem dX2_someFall_16 : decode cX2_someFall 16 = .ok (.iload_n 2, 1) := by decide +kernel
theorem dX2_someFall_17 : decode cX2_someFall 17 = .ok (.invokevirtual 106, 3) := by decide +kernel
theorem dX2_someFall_20 : decode cX2_someFall 20 = .ok (.ifCond .eq 11, 3) := by decide +kernel
theorem dX2_someFall_23 : decode cX2_someFall 23 = .ok (.aload_n 0, 1) := by decide +kernel
theorem dX2_someFall_24 : decode cX2_someFall 24 = .ok (.iload_n 2, 1) := by decide +kernel
theorem dX2_someFall_25 : decode cX2_someFall 25 = .ok (.invokevirtual 110, 3) := by decide +kernel
theorem dX2_someFall_28 : decode cX2_someFall 28 = .ok (.goto 4, 3) := by decide +kernel
theorem dX2_someFall_31 : decode cX2_someFall 31 = .ok (.iconst 0, 1) := by decide +kernel
theorem dX2_someFall_32 : decode cX2_someFall 32 = .ok (.iastore, 1) := by decide +kernel
theorem dX2_someFall_33 : decode cX2_someFall 33 = .ok (.iload_n 1, 1) := by decide +kernel
theorem dX2_someFall_34 : decode cX2_someFall 34 = .ok (.aload_n 0, 1) := by decide +kernel
theorem dX2_someFall_35 : decode cX2_someFall 35 = .ok (.getfield 27, 3) := by decide +kernel
theorem dX2_someFall_38 : decode cX2_someFall 38 = .ok (.iload_n 2, 1) := by decide +kernel
theorem dX2_someFall_39 : decode cX2_someFall 39 = .ok (.iaload, 1) := by decide +kernel
theorem dX2_someFall_40 : decode cX2_someFall 40 = .ok (.ifCond .eq 7, 3) := by decide +kernel
theorem dX2_someFall_43 : decode cX2_someFall 43 = .ok (.iconst 1, 1) := by decide +kernel
theorem dX2_someFall_44 : decode cX2_someFall 44 = .ok (.goto 4, 3) := by decide +kernel
theorem dX2_someFall_47 : decode cX2_someFall 47 = .ok (.iconst 0, 1) := by decide +kernel
theorem dX2_someFall_48 : decode cX2_someFall 48 = .ok (.ior, 1) := by decide +kernel
theorem dX2_someFall_49 : decode cX2_someFall 49 = .ok (.istore_n 1, 1) := by decide +kernel
theorem dX2_someFall_50 : decode cX2_someFall 50 = .ok (.iinc 2 1, 3) := by decide +kernel
theorem dX2_someFall_53 : decode cX2_someFall 53 = .ok (.goto (-49), 3) := by decide +kernel
theorem dX2_someFall_56 : decode cX2_someFall 56 = .ok (.iload_n 1, 1) := by decide +kernel
theorem dX2_someFall_57 : decode cX2_someFall 57 = .ok (.ireturn, 1) := by decide +kernel
theorem dX2_goes_0 : decode cX2_goes 0 = .ok (.aload_n 0, 1) := by decide +kernel
theorem dX2_goes_1 : decode cX2_goes 1 = .ok (.getfield 21, 3) := by decide +kernel
theorem dX2_goes_4 : decode cX2_goes 4 = .ok (.iload_n 1, 1) := by decide +kernel
theorem dX2_goes_5 : decode cX2_goes 5 = .ok (.iaload, 1) := by decide +kernel
theorem dX2_goes_6 : decode cX2_goes 6 = .ok (.aload_n 0, 1) := by decide +kernel
theorem dX2_goes_7 : decode cX2_goes 7 = .ok (.getfield 9, 3) := by decide +kernel
theorem dX2_goes_10 : decode cX2_goes 10 = .ok (.iload_n 1, 1) := by decide +kernel
theorem dX2_goes_11 : decode cX2_goes 11 = .ok (.iaload, 1) := by decide +kernel
theorem dX2_goes_12 : decode cX2_goes 12 = .ok (.if_icmp .eq 7, 3) := by decide +kernel
theorem dX2_goes_15 : decode cX2_goes 15 = .ok (.iconst 1, 1) := by decide +kernel
theorem dX2_goes_16 : decode cX2_goes 16 = .ok (.goto 4, 3) := by decide +kernel
theorem dX2_goes_19 : decode cX2_goes 19 = .ok (.iconst 0, 1) := by decide +kernel
theorem dX2_goes_20 : decode cX2_goes 20 = .ok (.ireturn, 1) := by decide +kernel
theorem dX2_whyFalls_0 : decode cX2_whyFalls 0 = .ok (.aload_n 0, 1) := by decide +kernel
theorem dX2_whyFalls_1 : decode cX2_whyFalls 1 = .ok (.getfield 21, 3) := by decide +kernel
theorem dX2_whyFalls_4 : decode cX2_whyFalls 4 = .ok (.iload_n 1, 1) := by decide +kernel
theorem dX2_whyFalls_5 : decode cX2_whyFalls 5 = .ok (.iaload, 1) := by decide +kernel
theorem dX2_whyFalls_6 : decode cX2_whyFalls 6 = .ok (.istore_n 2, 1) := by decide +kernel
theorem dX2_whyFalls_7 : decode cX2_whyFalls 7 = .ok (.iload_n 2, 1) := by decide +kernel
theorem dX2_whyFalls_8 : decode cX2_whyFalls 8 = .ok (.iconst (-1), 1) := by decide +kernel
theorem dX2_whyFalls_9 : decode cX2_whyFalls 9 = .ok (.if_icmp .ne 5, 3) := by decide +kernel
theorem dX2_whyFalls_12 : decode cX2_whyFalls 12 = .ok (.iconst 1, 1) := by decide +kernel
theorem dX2_whyFalls_13 : decode cX2_whyFalls 13 = .ok (.ireturn, 1) := by decide +kernel
theorem dX2_whyFalls_14 : decode cX2_whyFalls 14 = .ok (.aload_n 0, 1) := by decide +kernel
theorem dX2_whyFalls_15 : decode cX2_whyFalls 15 = .ok (.getfield 18, 3) := by decide +kernel
theorem dX2_whyFalls_18 : decode cX2_whyFalls 18 = .ok (.iload_n 2, 1) := by decide +kernel
theorem dX2_whyFalls_19 : decode cX2_whyFalls 19 = .ok (.iaload, 1) := by decide +kernel
theorem dX2_whyFalls_20 : decode cX2_whyFalls 20 = .ok (.istore_n 3, 1) := by decide +kernel
theorem dX2_whyFalls_21 : decode cX2_whyFalls 21 = .ok (.iload_n 3, 1) := by decide +kernel
theorem dX2_whyFalls_22 : decode cX2_whyFalls 22 = .ok (.iconst (-1), 1) := by decide +kernel
theorem dX2_whyFalls_23 : decode cX2_whyFalls 23 = .ok (.if_icmp .eq 28, 3) := by decide +kernel
theorem dX2_whyFalls_26 : decode cX2_whyFalls 26 = .ok (.aload_n 0, 1) := by decide +kernel
theorem dX2_whyFalls_27 : decode cX2_whyFalls 27 = .ok (.iload_n 3, 1) := by decide +kernel
theorem dX2_whyFalls_28 : decode cX2_whyFalls 28 = .ok (.invokevirtual 106, 3) := by decide +kernel
theorem dX2_whyFalls_31 : decode cX2_whyFalls 31 = .ok (.ifCond .eq 18, 3) := by decide +kernel
theorem dX2_whyFalls_34 : decode cX2_whyFalls 34 = .ok (.aload_n 0, 1) := by decide +kernel
theorem dX2_whyFalls_35 : decode cX2_whyFalls 35 = .ok (.getfield 21, 3) := by decide +kernel
theorem dX2_whyFalls_38 : decode cX2_whyFalls 38 = .ok (.iload_n 3, 1) := by decide +kernel
theorem dX2_whyFalls_39 : decode cX2_whyFalls 39 = .ok (.iaload, 1) := by decide +kernel
theorem dX2_whyFalls_40 : decode cX2_whyFalls 40 = .ok (.aload_n 0, 1) := by decide +kernel
theorem dX2_whyFalls_41 : decode cX2_whyFalls 41 = .ok (.getfield 9, 3) := by decide +kernel
theorem dX2_whyFalls_44 : decode cX2_whyFalls 44 = .ok (.iload_n 1, 1) := by decide +kernel
theorem dX2_whyFalls_45 : decode cX2_whyFalls 45 = .ok (.iaload, 1) := by decide +kernel
theorem dX2_whyFalls_46 : decode cX2_whyFalls 46 = .ok (.if_icmp .ne 5, 3) := by decide +kernel
theorem dX2_whyFalls_49 : decode cX2_whyFalls 49 = .ok (.iconst 2, 1) := by decide +kernel
theorem dX2_whyFalls_50 : decode cX2_whyFalls 50 = .ok (.ireturn, 1) := by decide +kernel
theorem dX2_whyFalls_51 : decode cX2_whyFalls 51 = .ok (.iconst 0, 1) := by decide +kernel
theorem dX2_whyFalls_52 : decode cX2_whyFalls 52 = .ok (.istore 4, 2) := by decide +kernel
theorem dX2_whyFalls_54 : decode cX2_whyFalls 54 = .ok (.iload 4, 2) := by decide +kernel
theorem dX2_whyFalls_56 : decode cX2_whyFalls 56 = .ok (.bipush 8, 2) := by decide +kernel
theorem dX2_whyFalls_58 : decode cX2_whyFalls 58 = .ok (.if_icmp .ge 28, 3) := by decide +kernel
theorem dX2_whyFalls_61 : decode cX2_whyFalls 61 = .ok (.iload 4, 2) := by decide +kernel
theorem dX2_whyFalls_63 : decode cX2_whyFalls 63 = .ok (.iload_n 1, 1) := by decide +kernel
theorem dX2_whyFalls_64 : decode cX2_whyFalls 64 = .ok (.if_icmp .eq 16, 3) := by decide +kernel
theorem dX2_whyFalls_67 : decode cX2_whyFalls 67 = .ok (.aload_n 0, 1) := by decide +kernel
theorem dX2_whyFalls_68 : decode cX2_whyFalls 68 = .ok (.getfield 21, 3) := by decide +kernel
theorem dX2_whyFalls_71 : decode cX2_whyFalls 71 = .ok (.iload 4, 2) := by decide +kernel
theorem dX2_whyFalls_73 : decode cX2_whyFalls 73 = .ok (.iaload, 1) := by decide +kernel
theorem dX2_whyFalls_74 : decode cX2_whyFalls 74 = .ok (.iload_n 2, 1) := by decide +kernel
theorem dX2_whyFalls_75 : decode cX2_whyFalls 75 = .ok (.if_icmp .ne 5, 3) := by decide +kernel
theorem dX2_whyFalls_78 : decode cX2_whyFalls 78 = .ok (.iconst 3, 1) := by decide +kernel
theorem dX2_whyFalls_79 : decode cX2_whyFalls 79 = .ok (.ireturn, 1) := by decide +kernel
theorem dX2_whyFalls_80 : decode cX2_whyFalls 80 = .ok (.iinc 4 1, 3) := by decide +kernel
theorem dX2_whyFalls_83 : decode cX2_whyFalls 83 = .ok (.goto (-29), 3) := by decide +kernel
theorem dX2_whyFalls_86 : decode cX2_whyFalls 86 = .ok (.iconst 0, 1) := by decide +kernel
theorem dX2_whyFalls_87 : decode cX2_whyFalls 87 = .ok (.ireturn, 1) := by decide +kernel
theorem dX2_meantBy_0 : decode cX2_meantBy 0 = .ok (.iconst 0, 1) := by decide +kernel
theorem dX2_meantBy_1 : decode cX2_meantBy 1 = .ok (.istore_n 2, 1) := by decide +kernel
theorem dX2_meantBy_2 : decode cX2_meantBy 2 = .ok (.iconst 0, 1) := by decide +kernel
theorem dX2_meantBy_3 : decode cX2_meantBy 3 = .ok (.istore_n 3, 1) := by decide +kernel
theorem dX2_meantBy_4 : decode cX2_meantBy 4 = .ok (.iload_n 3, 1) := by decide +kernel
theorem dX2_meantBy_5 : decode cX2_meantBy 5 = .ok (.bipush 8, 2) := by decide +kernel
theorem dX2_meantBy_7 : decode cX2_meantBy 7 = .ok (.if_icmp .ge 24, 3) := by decide +kernel
theorem dX2_meantBy_10 : decode cX2_meantBy 10 = .ok (.aload_n 0, 1) := by decide +kernel
theorem dX2_meantBy_11 : decode cX2_meantBy 11 = .ok (.iload_n 3, 1) := by decide +kernel
theorem dX2_meantBy_12 : decode cX2_meantBy 12 = .ok (.iload_n 1, 1) := by decide +kernel
theorem dX2_meantBy_13 : decode cX2_meantBy 13 = .ok (.invokevirtual 113, 3) := by decide +kernel
theorem dX2_meantBy_16 : decode cX2_meantBy 16 = .ok (.ifCond .eq 9, 3) := by decide +kernel
theorem dX2_meantBy_19 : decode cX2_meantBy 19 = .ok (.iload_n 2, 1) := by decide +kernel
theorem dX2_meantBy_20 : decode cX2_meantBy 20 = .ok (.iconst 1, 1) := by decide +kernel
theorem dX2_meantBy_21 : decode cX2_meantBy 21 = .ok (.iload_n 3, 1) := by decide +kernel
theorem dX2_meantBy_22 : decode cX2_meantBy 22 = .ok (.ishl, 1) := by decide +kernel
theorem dX2_meantBy_23 : decode cX2_meantBy 23 = .ok (.ior, 1) := by decide +kernel
theorem dX2_meantBy_24 : decode cX2_meantBy 24 = .ok (.istore_n 2, 1) := by decide +kernel
theorem dX2_meantBy_25 : decode cX2_meantBy 25 = .ok (.iinc 3 1, 3) := by decide +kernel
theorem dX2_meantBy_28 : decode cX2_meantBy 28 = .ok (.goto (-24), 3) := by decide +kernel
theorem dX2_meantBy_31 : decode cX2_meantBy 31 = .ok (.iload_n 2, 1) := by decide +kernel
theorem dX2_meantBy_32 : decode cX2_meantBy 32 = .ok (.ireturn, 1) := by decide +kernel
theorem dX2_isMeant_0 : decode cX2_isMeant 0 = .ok (.iload_n 2, 1) := by decide +kernel
theorem dX2_isMeant_1 : decode cX2_isMeant 1 = .ok (.tableswitch 159 0 8 #[51, 53, 67, 82, 94, 107, 117, 135, 147], 51) := by decide +kernel
theorem dX2_isMeant_52 : decode cX2_isMeant 52 = .ok (.iconst 1, 1) := by decide +kernel
theorem dX2_isMeant_53 : decode cX2_isMeant 53 = .ok (.ireturn, 1) := by decide +kernel
theorem dX2_isMeant_54 : decode cX2_isMeant 54 = .ok (.iload_n 1, 1) := by decide +kernel
theorem dX2_isMeant_55 : decode cX2_isMeant 55 = .ok (.iconst 2, 1) := by decide +kernel
theorem dX2_isMeant_56 : decode cX2_isMeant 56 = .ok (.idiv, 1) := by decide +kernel
theorem dX2_isMeant_57 : decode cX2_isMeant 57 = .ok (.iconst 2, 1) := by decide +kernel
theorem dX2_isMeant_58 : decode cX2_isMeant 58 = .ok (.irem, 1) := by decide +kernel
theorem dX2_isMeant_59 : decode cX2_isMeant 59 = .ok (.ifCond .ne 7, 3) := by decide +kernel
theorem dX2_isMeant_62 : decode cX2_isMeant 62 = .ok (.iconst 1, 1) := by decide +kernel
theorem dX2_isMeant_63 : decode cX2_isMeant 63 = .ok (.goto 4, 3) := by decide +kernel
theorem dX2_isMeant_66 : decode cX2_isMeant 66 = .ok (.iconst 0, 1) := by decide +kernel
theorem dX2_isMeant_67 : decode cX2_isMeant 67 = .ok (.ireturn, 1) := by decide +kernel
theorem dX2_isMeant_68 : decode cX2_isMeant 68 = .ok (.iload_n 1, 1) := by decide +kernel
theorem dX2_isMeant_69 : decode cX2_isMeant 69 = .ok (.iconst 2, 1) := by decide +kernel
theorem dX2_isMeant_70 : decode cX2_isMeant 70 = .ok (.idiv, 1) := by decide +kernel
theorem dX2_isMeant_71 : decode cX2_isMeant 71 = .ok (.iconst 2, 1) := by decide +kernel
theorem dX2_isMeant_72 : decode cX2_isMeant 72 = .ok (.irem, 1) := by decide +kernel
theorem dX2_isMeant_73 : decode cX2_isMeant 73 = .ok (.iconst 1, 1) := by decide +kernel
theorem dX2_isMeant_74 : decode cX2_isMeant 74 = .ok (.if_icmp .ne 7, 3) := by decide +kernel
theorem dX2_isMeant_77 : decode cX2_isMeant 77 = .ok (.iconst 1, 1) := by decide +kernel
theorem dX2_isMeant_78 : decode cX2_isMeant 78 = .ok (.goto 4, 3) := by decide +kernel
theorem dX2_isMeant_81 : decode cX2_isMeant 81 = .ok (.iconst 0, 1) := by decide +kernel
theorem dX2_isMeant_82 : decode cX2_isMeant 82 = .ok (.ireturn, 1) := by decide +kernel
theorem dX2_isMeant_83 : decode cX2_isMeant 83 = .ok (.iload_n 1, 1) := by decide +kernel
theorem dX2_isMeant_84 : decode cX2_isMeant 84 = .ok (.iconst 2, 1) := by decide +kernel
theorem dX2_isMeant_85 : decode cX2_isMeant 85 = .ok (.irem, 1) := by decide +kernel
theorem dX2_isMeant_86 : decode cX2_isMeant 86 = .ok (.ifCond .ne 7, 3) := by decide +kernel
theorem dX2_isMeant_89 : decode cX2_isMeant 89 = .ok (.iconst 1, 1) := by decide +kernel
theorem dX2_isMeant_90 : decode cX2_isMeant 90 = .ok (.goto 4, 3) := by decide +kernel
theorem dX2_isMeant_93 : decode cX2_isMeant 93 = .ok (.iconst 0, 1) := by decide +kernel
theorem dX2_isMeant_94 : decode cX2_isMeant 94 = .ok (.ireturn, 1) := by decide +kernel
theorem dX2_isMeant_95 : decode cX2_isMeant 95 = .ok (.iload_n 1, 1) := by decide +kernel
theorem dX2_isMeant_96 : decode cX2_isMeant 96 = .ok (.iconst 2, 1) := by decide +kernel
theorem dX2_isMeant_97 : decode cX2_isMeant 97 = .ok (.irem, 1) := by decide +kernel
theorem dX2_isMeant_98 : decode cX2_isMeant 98 = .ok (.iconst 1, 1) := by decide +kernel
theorem dX2_isMeant_99 : decode cX2_isMeant 99 = .ok (.if_icmp .ne 7, 3) := by decide +kernel
theorem dX2_isMeant_102 : decode cX2_isMeant 102 = .ok (.iconst 1, 1) := by decide +kernel
theorem dX2_isMeant_103 : decode cX2_isMeant 103 = .ok (.goto 4, 3) := by decide +kernel
theorem dX2_isMeant_106 : decode cX2_isMeant 106 = .ok (.iconst 0, 1) := by decide +kernel
theorem dX2_isMeant_107 : decode cX2_isMeant 107 = .ok (.ireturn, 1) := by decide +kernel
theorem dX2_isMeant_108 : decode cX2_isMeant 108 = .ok (.aload_n 0, 1) := by decide +kernel
theorem dX2_isMeant_109 : decode cX2_isMeant 109 = .ok (.getfield 9, 3) := by decide +kernel
theorem dX2_isMeant_112 : decode cX2_isMeant 112 = .ok (.iload_n 1, 1) := by decide +kernel
theorem dX2_isMeant_113 : decode cX2_isMeant 113 = .ok (.iaload, 1) := by decide +kernel
theorem dX2_isMeant_114 : decode cX2_isMeant 114 = .ok (.invokestatic 116, 3) := by decide +kernel
theorem dX2_isMeant_117 : decode cX2_isMeant 117 = .ok (.ireturn, 1) := by decide +kernel
theorem dX2_isMeant_118 : decode cX2_isMeant 118 = .ok (.aload_n 0, 1) := by decide +kernel
theorem dX2_isMeant_119 : decode cX2_isMeant 119 = .ok (.getfield 9, 3) := by decide +kernel
theorem dX2_isMeant_122 : decode cX2_isMeant 122 = .ok (.iload_n 1, 1) := by decide +kernel
theorem dX2_isMeant_123 : decode cX2_isMeant 123 = .ok (.iaload, 1) := by decide +kernel
theorem dX2_isMeant_124 : decode cX2_isMeant 124 = .ok (.invokestatic 116, 3) := by decide +kernel
theorem dX2_isMeant_127 : decode cX2_isMeant 127 = .ok (.ifCond .ne 7, 3) := by decide +kernel
theorem dX2_isMeant_130 : decode cX2_isMeant 130 = .ok (.iconst 1, 1) := by decide +kernel
theorem dX2_isMeant_131 : decode cX2_isMeant 131 = .ok (.goto 4, 3) := by decide +kernel
theorem dX2_isMeant_134 : decode cX2_isMeant 134 = .ok (.iconst 0, 1) := by decide +kernel
theorem dX2_isMeant_135 : decode cX2_isMeant 135 = .ok (.ireturn, 1) := by decide +kernel
theorem dX2_isMeant_136 : decode cX2_isMeant 136 = .ok (.aload_n 0, 1) := by decide +kernel
theorem dX2_isMeant_137 : decode cX2_isMeant 137 = .ok (.iload_n 1, 1) := by decide +kernel
theorem dX2_isMeant_138 : decode cX2_isMeant 138 = .ok (.aload_n 0, 1) := by decide +kernel
theorem dX2_isMeant_139 : decode cX2_isMeant 139 = .ok (.iload_n 1, 1) := by decide +kernel
theorem dX2_isMeant_140 : decode cX2_isMeant 140 = .ok (.iconst 3, 1) := by decide +kernel
theorem dX2_isMeant_141 : decode cX2_isMeant 141 = .ok (.invokevirtual 103, 3) := by decide +kernel
theorem dX2_isMeant_144 : decode cX2_isMeant 144 = .ok (.invokevirtual 119, 3) := by decide +kernel
theorem dX2_isMeant_147 : decode cX2_isMeant 147 = .ok (.ireturn, 1) := by decide +kernel
theorem dX2_isMeant_148 : decode cX2_isMeant 148 = .ok (.aload_n 0, 1) := by decide +kernel
theorem dX2_isMeant_149 : decode cX2_isMeant 149 = .ok (.iload_n 1, 1) := by decide +kernel
theorem dX2_isMeant_150 : decode cX2_isMeant 150 = .ok (.aload_n 0, 1) := by decide +kernel
theorem dX2_isMeant_151 : decode cX2_isMeant 151 = .ok (.iload_n 1, 1) := by decide +kernel
theorem dX2_isMeant_152 : decode cX2_isMeant 152 = .ok (.iconst 1, 1) := by decide +kernel
theorem dX2_isMeant_153 : decode cX2_isMeant 153 = .ok (.invokevirtual 103, 3) := by decide +kernel
theorem dX2_isMeant_156 : decode cX2_isMeant 156 = .ok (.invokevirtual 119, 3) := by decide +kernel
theorem dX2_isMeant_159 : decode cX2_isMeant 159 = .ok (.ireturn, 1) := by decide +kernel
theorem dX2_isMeant_160 : decode cX2_isMeant 160 = .ok (.iconst 0, 1) := by decide +kernel
theorem dX2_isMeant_161 : decode cX2_isMeant 161 = .ok (.ireturn, 1) := by decide +kernel
theorem dX2_facesLike_0 : decode cX2_facesLike 0 = .ok (.iload_n 2, 1) := by decide +kernel
theorem dX2_facesLike_1 : decode cX2_facesLike 1 = .ok (.iconst (-1), 1) := by decide +kernel
theorem dX2_facesLike_2 : decode cX2_facesLike 2 = .ok (.if_icmp .eq 22, 3) := by decide +kernel
theorem dX2_facesLike_5 : decode cX2_facesLike 5 = .ok (.aload_n 0, 1) := by decide +kernel
theorem dX2_facesLike_6 : decode cX2_facesLike 6 = .ok (.getfield 15, 3) := by decide +kernel
theorem dX2_facesLike_9 : decode cX2_facesLike 9 = .ok (.iload_n 2, 1) := by decide +kernel
theorem dX2_facesLike_10 : decode cX2_facesLike 10 = .ok (.iaload, 1) := by decide +kernel
theorem dX2_facesLike_11 : decode cX2_facesLike 11 = .ok (.aload_n 0, 1) := by decide +kernel
theorem dX2_facesLike_12 : decode cX2_facesLike 12 = .ok (.getfield 15, 3) := by decide +kernel
theorem dX2_facesLike_15 : decode cX2_facesLike 15 = .ok (.iload_n 1, 1) := by decide +kernel
theorem dX2_facesLike_16 : decode cX2_facesLike 16 = .ok (.iaload, 1) := by decide +kernel
theorem dX2_facesLike_17 : decode cX2_facesLike 17 = .ok (.if_icmp .ne 7, 3) := by decide +kernel
theorem dX2_facesLike_20 : decode cX2_facesLike 20 = .ok (.iconst 1, 1) := by decide +kernel
theorem dX2_facesLike_21 : decode cX2_facesLike 21 = .ok (.goto 4, 3) := by decide +kernel
theorem dX2_facesLike_24 : decode cX2_facesLike 24 = .ok (.iconst 0, 1) := by decide +kernel
theorem dX2_facesLike_25 : decode cX2_facesLike 25 = .ok (.ireturn, 1) := by decide +kernel
theorem dX2_isCenter_0 : decode cX2_isCenter 0 = .ok (.iload_n 0, 1) := by decide +kernel
theorem dX2_isCenter_1 : decode cX2_isCenter 1 = .ok (.iconst 4, 1) := by decide +kernel
theorem dX2_isCenter_2 : decode cX2_isCenter 2 = .ok (.irem, 1) := by decide +kernel
theorem dX2_isCenter_3 : decode cX2_isCenter 3 = .ok (.istore_n 1, 1) := by decide +kernel
theorem dX2_isCenter_4 : decode cX2_isCenter 4 = .ok (.iload_n 0, 1) := by decide +kernel
theorem dX2_isCenter_5 : decode cX2_isCenter 5 = .ok (.iconst 4, 1) := by decide +kernel
theorem dX2_isCenter_6 : decode cX2_isCenter 6 = .ok (.idiv, 1) := by decide +kernel
theorem dX2_isCenter_7 : decode cX2_isCenter 7 = .ok (.istore_n 2, 1) := by decide +kernel
theorem dX2_isCenter_8 : decode cX2_isCenter 8 = .ok (.iload_n 1, 1) := by decide +kernel
theorem dX2_isCenter_9 : decode cX2_isCenter 9 = .ok (.iconst 1, 1) := by decide +kernel
theorem dX2_isCenter_10 : decode cX2_isCenter 10 = .ok (.if_icmp .lt 22, 3) := by decide +kernel
theorem dX2_isCenter_13 : decode cX2_isCenter 13 = .ok (.iload_n 1, 1) := by decide +kernel
theorem dX2_isCenter_14 : decode cX2_isCenter 14 = .ok (.iconst 2, 1) := by decide +kernel
theorem dX2_isCenter_15 : decode cX2_isCenter 15 = .ok (.if_icmp .gt 17, 3) := by decide +kernel
theorem dX2_isCenter_18 : decode cX2_isCenter 18 = .ok (.iload_n 2, 1) := by decide +kernel
theorem dX2_isCenter_19 : decode cX2_isCenter 19 = .ok (.iconst 1, 1) := by decide +kernel
theorem dX2_isCenter_20 : decode cX2_isCenter 20 = .ok (.if_icmp .lt 12, 3) := by decide +kernel
theorem dX2_isCenter_23 : decode cX2_isCenter 23 = .ok (.iload_n 2, 1) := by decide +kernel
theorem dX2_isCenter_24 : decode cX2_isCenter 24 = .ok (.iconst 2, 1) := by decide +kernel
theorem dX2_isCenter_25 : decode cX2_isCenter 25 = .ok (.if_icmp .gt 7, 3) := by decide +kernel
theorem dX2_isCenter_28 : decode cX2_isCenter 28 = .ok (.iconst 1, 1) := by decide +kernel
theorem dX2_isCenter_29 : decode cX2_isCenter 29 = .ok (.goto 4, 3) := by decide +kernel
theorem dX2_isCenter_32 : decode cX2_isCenter 32 = .ok (.iconst 0, 1) := by decide +kernel
theorem dX2_isCenter_33 : decode cX2_isCenter 33 = .ok (.ireturn, 1) := by decide +kernel
theorem dX2_isIn_0 : decode cX2_isIn 0 = .ok (.iload_n 0, 1) := by decide +kernel
theorem dX2_isIn_1 : decode cX2_isIn 1 = .ok (.iconst (-1), 1) := by decide +kernel
theorem dX2_isIn_2 : decode cX2_isIn 2 = .ok (.if_icmp .eq 16, 3) := by decide +kernel
theorem dX2_isIn_5 : decode cX2_isIn 5 = .ok (.iload_n 1, 1) := by decide +kernel
theorem dX2_isIn_6 : decode cX2_isIn 6 = .ok (.iload_n 0, 1) := by decide +kernel
theorem dX2_isIn_7 : decode cX2_isIn 7 = .ok (.ishr, 1) := by decide +kernel
theorem dX2_isIn_8 : decode cX2_isIn 8 = .ok (.iconst 1, 1) := by decide +kernel
theorem dX2_isIn_9 : decode cX2_isIn 9 = .ok (.iand, 1) := by decide +kernel
theorem dX2_isIn_10 : decode cX2_isIn 10 = .ok (.iconst 1, 1) := by decide +kernel
theorem dX2_isIn_11 : decode cX2_isIn 11 = .ok (.if_icmp .ne 7, 3) := by decide +kernel
theorem dX2_isIn_14 : decode cX2_isIn 14 = .ok (.iconst 1, 1) := by decide +kernel
theorem dX2_isIn_15 : decode cX2_isIn 15 = .ok (.goto 4, 3) := by decide +kernel
theorem dX2_isIn_18 : decode cX2_isIn 18 = .ok (.iconst 0, 1) := by decide +kernel
theorem dX2_isIn_19 : decode cX2_isIn 19 = .ok (.ireturn, 1) := by decide +kernel
theorem dX2_beside_0 : decode cX2_beside 0 = .ok (.aload_n 0, 1) := by decide +kernel
theorem dX2_beside_1 : decode cX2_beside 1 = .ok (.getfield 9, 3) := by decide +kernel
theorem dX2_beside_4 : decode cX2_beside 4 = .ok (.iload_n 1, 1) := by decide +kernel
theorem dX2_beside_5 : decode cX2_beside 5 = .ok (.iaload, 1) := by decide +kernel
theorem dX2_beside_6 : decode cX2_beside 6 = .ok (.aload_n 0, 1) := by decide +kernel
theorem dX2_beside_7 : decode cX2_beside 7 = .ok (.getfield 15, 3) := by decide +kernel
theorem dX2_beside_10 : decode cX2_beside 10 = .ok (.iload_n 1, 1) := by decide +kernel
theorem dX2_beside_11 : decode cX2_beside 11 = .ok (.iaload, 1) := by decide +kernel
theorem dX2_beside_12 : decode cX2_beside 12 = .ok (.iload_n 2, 1) := by decide +kernel
theorem dX2_beside_13 : decode cX2_beside 13 = .ok (.iadd, 1) := by decide +kernel
theorem dX2_beside_14 : decode cX2_beside 14 = .ok (.invokestatic 85, 3) := by decide +kernel
theorem dX2_beside_17 : decode cX2_beside 17 = .ok (.istore_n 3, 1) := by decide +kernel
theorem dX2_beside_18 : decode cX2_beside 18 = .ok (.iload_n 3, 1) := by decide +kernel
theorem dX2_beside_19 : decode cX2_beside 19 = .ok (.iconst (-1), 1) := by decide +kernel
theorem dX2_beside_20 : decode cX2_beside 20 = .ok (.if_icmp .ne 7, 3) := by decide +kernel
theorem dX2_beside_23 : decode cX2_beside 23 = .ok (.iconst (-1), 1) := by decide +kernel
theorem dX2_beside_24 : decode cX2_beside 24 = .ok (.goto 9, 3) := by decide +kernel
theorem dX2_beside_27 : decode cX2_beside 27 = .ok (.aload_n 0, 1) := by decide +kernel
theorem dX2_beside_28 : decode cX2_beside 28 = .ok (.getfield 18, 3) := by decide +kernel
theorem dX2_beside_31 : decode cX2_beside 31 = .ok (.iload_n 3, 1) := by decide +kernel
theorem dX2_beside_32 : decode cX2_beside 32 = .ok (.iaload, 1) := by decide +kernel
theorem dX2_beside_33 : decode cX2_beside 33 = .ok (.ireturn, 1) := by decide +kernel
theorem dX2_neighbour_0 : decode cX2_neighbour 0 = .ok (.iload_n 0, 1) := by decide +kernel
theorem dX2_neighbour_1 : decode cX2_neighbour 1 = .ok (.iconst 4, 1) := by decide +kernel
theorem dX2_neighbour_2 : decode cX2_neighbour 2 = .ok (.irem, 1) := by decide +kernel
theorem dX2_neighbour_3 : decode cX2_neighbour 3 = .ok (.getstatic 122, 3) := by decide +kernel
theorem dX2_neighbour_6 : decode cX2_neighbour 6 = .ok (.iload_n 1, 1) := by decide +kernel
theorem dX2_neighbour_7 : decode cX2_neighbour 7 = .ok (.iconst 3, 1) := by decide +kernel
theorem dX2_neighbour_8 : decode cX2_neighbour 8 = .ok (.iand, 1) := by decide +kernel
theorem dX2_neighbour_9 : decode cX2_neighbour 9 = .ok (.iaload, 1) := by decide +kernel
theorem dX2_neighbour_10 : decode cX2_neighbour 10 = .ok (.iadd, 1) := by decide +kernel
theorem dX2_neighbour_11 : decode cX2_neighbour 11 = .ok (.istore_n 2, 1) := by decide +kernel
theorem dX2_neighbour_12 : decode cX2_neighbour 12 = .ok (.iload_n 0, 1) := by decide +kernel
theorem dX2_neighbour_13 : decode cX2_neighbour 13 = .ok (.iconst 4, 1) := by decide +kernel
theorem dX2_neighbour_14 : decode cX2_neighbour 14 = .ok (.idiv, 1) := by decide +kernel
theorem dX2_neighbour_15 : decode cX2_neighbour 15 = .ok (.getstatic 125, 3) := by decide +kernel
theorem dX2_neighbour_18 : decode cX2_neighbour 18 = .ok (.iload_n 1, 1) := by decide +kernel
theorem dX2_neighbour_19 : decode cX2_neighbour 19 = .ok (.iconst 3, 1) := by decide +kernel
theorem dX2_neighbour_20 : decode cX2_neighbour 20 = .ok (.iand, 1) := by decide +kernel
theorem dX2_neighbour_21 : decode cX2_neighbour 21 = .ok (.iaload, 1) := by decide +kernel
theorem dX2_neighbour_22 : decode cX2_neighbour 22 = .ok (.iadd, 1) := by decide +kernel
theorem dX2_neighbour_23 : decode cX2_neighbour 23 = .ok (.istore_n 3, 1) := by decide +kernel
theorem dX2_neighbour_24 : decode cX2_neighbour 24 = .ok (.iload_n 2, 1) := by decide +kernel
theorem dX2_neighbour_25 : decode cX2_neighbour 25 = .ok (.ifCond .lt 21, 3) := by decide +kernel
theorem dX2_neighbour_28 : decode cX2_neighbour 28 = .ok (.iload_n 2, 1) := by decide +kernel
theorem dX2_neighbour_29 : decode cX2_neighbour 29 = .ok (.iconst 4, 1) := by decide +kernel
theorem dX2_neighbour_30 : decode cX2_neighbour 30 = .ok (.if_icmp .ge 16, 3) := by decide +kernel
theorem dX2_neighbour_33 : decode cX2_neighbour 33 = .ok (.iload_n 3, 1) := by decide +kernel
theorem dX2_neighbour_34 : decode cX2_neighbour 34 = .ok (.ifCond .lt 12, 3) := by decide +kernel
theorem dX2_neighbour_37 : decode cX2_neighbour 37 = .ok (.iload_n 3, 1) := by decide +kernel
theorem dX2_neighbour_38 : decode cX2_neighbour 38 = .ok (.iconst 4, 1) := by decide +kernel
theorem dX2_neighbour_39 : decode cX2_neighbour 39 = .ok (.if_icmp .ge 7, 3) := by decide +kernel
theorem dX2_neighbour_42 : decode cX2_neighbour 42 = .ok (.iconst 1, 1) := by decide +kernel
theorem dX2_neighbour_43 : decode cX2_neighbour 43 = .ok (.goto 4, 3) := by decide +kernel
theorem dX2_neighbour_46 : decode cX2_neighbour 46 = .ok (.iconst 0, 1) := by decide +kernel
theorem dX2_neighbour_47 : decode cX2_neighbour 47 = .ok (.istore 4, 2) := by decide +kernel
theorem dX2_neighbour_49 : decode cX2_neighbour 49 = .ok (.iload 4, 2) := by decide +kernel
theorem dX2_neighbour_51 : decode cX2_neighbour 51 = .ok (.ifCond .eq 11, 3) := by decide +kernel
theorem dX2_neighbour_54 : decode cX2_neighbour 54 = .ok (.iconst 4, 1) := by decide +kernel
theorem dX2_neighbour_55 : decode cX2_neighbour 55 = .ok (.iload_n 3, 1) := by decide +kernel
theorem dX2_neighbour_56 : decode cX2_neighbour 56 = .ok (.imul, 1) := by decide +kernel
theorem dX2_neighbour_57 : decode cX2_neighbour 57 = .ok (.iload_n 2, 1) := by decide +kernel
theorem dX2_neighbour_58 : decode cX2_neighbour 58 = .ok (.iadd, 1) := by decide +kernel
theorem dX2_neighbour_59 : decode cX2_neighbour 59 = .ok (.goto 4, 3) := by decide +kernel
theorem dX2_neighbour_62 : decode cX2_neighbour 62 = .ok (.iconst (-1), 1) := by decide +kernel
theorem dX2_neighbour_63 : decode cX2_neighbour 63 = .ok (.ireturn, 1) := by decide +kernel
theorem dX2_atHome_0 : decode cX2_atHome 0 = .ok (.iconst 0, 1) := by decide +kernel
theorem dX2_atHome_1 : decode cX2_atHome 1 = .ok (.istore_n 2, 1) := by decide +kernel
theorem dX2_atHome_2 : decode cX2_atHome 2 = .ok (.iconst 0, 1) := by decide +kernel
theorem dX2_atHome_3 : decode cX2_atHome 3 = .ok (.istore_n 3, 1) := by decide +kernel
theorem dX2_atHome_4 : decode cX2_atHome 4 = .ok (.iload_n 3, 1) := by decide +kernel
theorem dX2_atHome_5 : decode cX2_atHome 5 = .ok (.bipush 8, 2) := by decide +kernel
theorem dX2_atHome_7 : decode cX2_atHome 7 = .ok (.if_icmp .ge 44, 3) := by decide +kernel
theorem dX2_atHome_10 : decode cX2_atHome 10 = .ok (.aload_n 0, 1) := by decide +kernel
theorem dX2_atHome_11 : decode cX2_atHome 11 = .ok (.getfield 9, 3) := by decide +kernel
theorem dX2_atHome_14 : decode cX2_atHome 14 = .ok (.iload_n 3, 1) := by decide +kernel
theorem dX2_atHome_15 : decode cX2_atHome 15 = .ok (.iaload, 1) := by decide +kernel
theorem dX2_atHome_16 : decode cX2_atHome 16 = .ok (.getstatic 75, 3) := by decide +kernel
theorem dX2_atHome_19 : decode cX2_atHome 19 = .ok (.iload_n 3, 1) := by decide +kernel
theorem dX2_atHome_20 : decode cX2_atHome 20 = .ok (.iaload, 1) := by decide +kernel
theorem dX2_atHome_21 : decode cX2_atHome 21 = .ok (.if_icmp .ne 24, 3) := by decide +kernel
theorem dX2_atHome_24 : decode cX2_atHome 24 = .ok (.iload_n 1, 1) := by decide +kernel
theorem dX2_atHome_25 : decode cX2_atHome 25 = .ok (.ifCond .eq 17, 3) := by decide +kernel
theorem dX2_atHome_28 : decode cX2_atHome 28 = .ok (.aload_n 0, 1) := by decide +kernel
theorem dX2_atHome_29 : decode cX2_atHome 29 = .ok (.getfield 15, 3) := by decide +kernel
theorem dX2_atHome_32 : decode cX2_atHome 32 = .ok (.iload_n 3, 1) := by decide +kernel
theorem dX2_atHome_33 : decode cX2_atHome 33 = .ok (.iaload, 1) := by decide +kernel
theorem dX2_atHome_34 : decode cX2_atHome 34 = .ok (.getstatic 78, 3) := by decide +kernel
theorem dX2_atHome_37 : decode cX2_atHome 37 = .ok (.iload_n 3, 1) := by decide +kernel
theorem dX2_atHome_38 : decode cX2_atHome 38 = .ok (.iaload, 1) := by decide +kernel
theorem dX2_atHome_39 : decode cX2_atHome 39 = .ok (.if_icmp .ne 6, 3) := by decide +kernel
theorem dX2_atHome_42 : decode cX2_atHome 42 = .ok (.iinc 2 1, 3) := by decide +kernel
theorem dX2_atHome_45 : decode cX2_atHome 45 = .ok (.iinc 3 1, 3) := by decide +kernel
theorem dX2_atHome_48 : decode cX2_atHome 48 = .ok (.goto (-44), 3) := by decide +kernel
theorem dX2_atHome_51 : decode cX2_atHome 51 = .ok (.iload_n 2, 1) := by decide +kernel
theorem dX2_atHome_52 : decode cX2_atHome 52 = .ok (.ireturn, 1) := by decide +kernel
theorem dX2_couples_0 : decode cX2_couples 0 = .ok (.iconst 0, 1) := by decide +kernel
theorem dX2_couples_1 : decode cX2_couples 1 = .ok (.istore_n 1, 1) := by decide +kernel
theorem dX2_couples_2 : decode cX2_couples 2 = .ok (.iconst 0, 1) := by decide +kernel
theorem dX2_couples_3 : decode cX2_couples 3 = .ok (.istore_n 2, 1) := by decide +kernel
theorem dX2_couples_4 : decode cX2_couples 4 = .ok (.iload_n 2, 1) := by decide +kernel
theorem dX2_couples_5 : decode cX2_couples 5 = .ok (.bipush 8, 2) := by decide +kernel
theorem dX2_couples_7 : decode cX2_couples 7 = .ok (.if_icmp .ge 35, 3) := by decide +kernel
theorem dX2_couples_10 : decode cX2_couples 10 = .ok (.iload_n 2, 1) := by decide +kernel
theorem dX2_couples_11 : decode cX2_couples 11 = .ok (.iconst 1, 1) := by decide +kernel
theorem dX2_couples_12 : decode cX2_couples 12 = .ok (.iadd, 1) := by decide +kernel
theorem dX2_couples_13 : decode cX2_couples 13 = .ok (.istore_n 3, 1) := by decide +kernel
theorem dX2_couples_14 : decode cX2_couples 14 = .ok (.aload_n 0, 1) := by decide +kernel
theorem dX2_couples_15 : decode cX2_couples 15 = .ok (.iload_n 2, 1) := by decide +kernel
theorem dX2_couples_16 : decode cX2_couples 16 = .ok (.iconst 1, 1) := by decide +kernel
theorem dX2_couples_17 : decode cX2_couples 17 = .ok (.invokevirtual 103, 3) := by decide +kernel
theorem dX2_couples_20 : decode cX2_couples 20 = .ok (.iload_n 3, 1) := by decide +kernel
theorem dX2_couples_21 : decode cX2_couples 21 = .ok (.if_icmp .ne 15, 3) := by decide +kernel
theorem dX2_couples_24 : decode cX2_couples 24 = .ok (.aload_n 0, 1) := by decide +kernel
theorem dX2_couples_25 : decode cX2_couples 25 = .ok (.iload_n 2, 1) := by decide +kernel
theorem dX2_couples_26 : decode cX2_couples 26 = .ok (.iload_n 3, 1) := by decide +kernel
theorem dX2_couples_27 : decode cX2_couples 27 = .ok (.invokevirtual 119, 3) := by decide +kernel
theorem dX2_couples_30 : decode cX2_couples 30 = .ok (.ifCond .eq 6, 3) := by decide +kernel
theorem dX2_couples_33 : decode cX2_couples 33 = .ok (.iinc 1 1, 3) := by decide +kernel
theorem dX2_couples_36 : decode cX2_couples 36 = .ok (.iinc 2 2, 3) := by decide +kernel
theorem dX2_couples_39 : decode cX2_couples 39 = .ok (.goto (-35), 3) := by decide +kernel
theorem dX2_couples_42 : decode cX2_couples 42 = .ok (.iload_n 1, 1) := by decide +kernel
theorem dX2_couples_43 : decode cX2_couples 43 = .ok (.ireturn, 1) := by decide +kernel
theorem dX2_signOf_0 : decode cX2_signOf 0 = .ok (.iload_n 1, 1) := by decide +kernel
theorem dX2_signOf_1 : decode cX2_signOf 1 = .ok (.ifCond .lt 18, 3) := by decide +kernel
theorem dX2_signOf_4 : decode cX2_signOf 4 = .ok (.iload_n 1, 1) := by decide +kernel
theorem dX2_signOf_5 : decode cX2_signOf 5 = .ok (.bipush 16, 2) := by decide +kernel
theorem dX2_signOf_7 : decode cX2_signOf 7 = .ok (.if_icmp .ge 12, 3) := by decide +kernel
theorem dX2_signOf_10 : decode cX2_signOf 10 = .ok (.aload_n 0, 1) := by decide +kernel
theorem dX2_signOf_11 : decode cX2_signOf 11 = .ok (.getfield 18, 3) := by decide +kernel
theorem dX2_signOf_14 : decode cX2_signOf 14 = .ok (.iload_n 1, 1) := by decide +kernel
theorem dX2_signOf_15 : decode cX2_signOf 15 = .ok (.iaload, 1) := by decide +kernel
theorem dX2_signOf_16 : decode cX2_signOf 16 = .ok (.goto 4, 3) := by decide +kernel
theorem dX2_signOf_19 : decode cX2_signOf 19 = .ok (.iconst (-1), 1) := by decide +kernel
theorem dX2_signOf_20 : decode cX2_signOf 20 = .ok (.istore_n 3, 1) := by decide +kernel
theorem dX2_signOf_21 : decode cX2_signOf 21 = .ok (.iload_n 3, 1) := by decide +kernel
theorem dX2_signOf_22 : decode cX2_signOf 22 = .ok (.iconst (-1), 1) := by decide +kernel
theorem dX2_signOf_23 : decode cX2_signOf 23 = .ok (.if_icmp .ne 6, 3) := by decide +kernel
theorem dX2_signOf_26 : decode cX2_signOf 26 = .ok (.bipush 46, 2) := by decide +kernel
theorem dX2_signOf_28 : decode cX2_signOf 28 = .ok (.ireturn, 1) := by decide +kernel
theorem dX2_signOf_29 : decode cX2_signOf 29 = .ok (.iload_n 2, 1) := by decide +kernel
theorem dX2_signOf_30 : decode cX2_signOf 30 = .ok (.ifCond .eq 10, 3) := by decide +kernel
theorem dX2_signOf_33 : decode cX2_signOf 33 = .ok (.bipush 49, 2) := by decide +kernel
theorem dX2_signOf_35 : decode cX2_signOf 35 = .ok (.iload_n 3, 1) := by decide +kernel
theorem dX2_signOf_36 : decode cX2_signOf 36 = .ok (.iadd, 1) := by decide +kernel
theorem dX2_signOf_37 : decode cX2_signOf 37 = .ok (.goto 15, 3) := by decide +kernel
theorem dX2_signOf_40 : decode cX2_signOf 40 = .ok (.getstatic 128, 3) := by decide +kernel
theorem dX2_signOf_43 : decode cX2_signOf 43 = .ok (.aload_n 0, 1) := by decide +kernel
theorem dX2_signOf_44 : decode cX2_signOf 44 = .ok (.getfield 15, 3) := by decide +kernel
theorem dX2_signOf_47 : decode cX2_signOf 47 = .ok (.iload_n 3, 1) := by decide +kernel
theorem dX2_signOf_48 : decode cX2_signOf 48 = .ok (.iaload, 1) := by decide +kernel
theorem dX2_signOf_49 : decode cX2_signOf 49 = .ok (.iconst 3, 1) := by decide +kernel
theorem dX2_signOf_50 : decode cX2_signOf 50 = .ok (.iand, 1) := by decide +kernel
theorem dX2_signOf_51 : decode cX2_signOf 51 = .ok (.caload, 1) := by decide +kernel
theorem dX2_signOf_52 : decode cX2_signOf 52 = .ok (.ireturn, 1) := by decide +kernel
theorem dX3_bits_0 : decode cX3_bits 0 = .ok (.iload_n 1, 1) := by decide +kernel
theorem dX3_bits_1 : decode cX3_bits 1 = .ok (.bipush 16, 2) := by decide +kernel
theorem dX3_bits_3 : decode cX3_bits 3 = .ok (.iload_n 2, 1) := by decide +kernel
theorem dX3_bits_4 : decode cX3_bits 4 = .ok (.imul, 1) := by decide +kernel
theorem dX3_bits_5 : decode cX3_bits 5 = .ok (.iadd, 1) := by decide +kernel
theorem dX3_bits_6 : decode cX3_bits 6 = .ok (.i2l, 1) := by decide +kernel
theorem dX3_bits_7 : decode cX3_bits 7 = .ok (.bipush 6, 2) := by decide +kernel
theorem dX3_bits_9 : decode cX3_bits 9 = .ok (.iload_n 0, 1) := by decide +kernel
theorem dX3_bits_10 : decode cX3_bits 10 = .ok (.imul, 1) := by decide +kernel
theorem dX3_bits_11 : decode cX3_bits 11 = .ok (.lshl, 1) := by decide +kernel
theorem dX3_bits_12 : decode cX3_bits 12 = .ok (.lreturn, 1) := by decide +kernel
theorem dX3_cellOf_0 : decode cX3_cellOf 0 = .ok (.lload_n 0, 1) := by decide +kernel
theorem dX3_cellOf_1 : decode cX3_cellOf 1 = .ok (.bipush 6, 2) := by decide +kernel
theorem dX3_cellOf_3 : decode cX3_cellOf 3 = .ok (.iload_n 2, 1) := by decide +kernel
theorem dX3_cellOf_4 : decode cX3_cellOf 4 = .ok (.imul, 1) := by decide +kernel
theorem dX3_cellOf_5 : decode cX3_cellOf 5 = .ok (.lshr, 1) := by decide +kernel
theorem dX3_cellOf_6 : decode cX3_cellOf 6 = .ok (.l2i, 1) := by decide +kernel
theorem dX3_cellOf_7 : decode cX3_cellOf 7 = .ok (.bipush 15, 2) := by decide +kernel
theorem dX3_cellOf_9 : decode cX3_cellOf 9 = .ok (.iand, 1) := by decide +kernel
theorem dX3_cellOf_10 : decode cX3_cellOf 10 = .ok (.ireturn, 1) := by decide +kernel
theorem dX3_facingOf_0 : decode cX3_facingOf 0 = .ok (.lload_n 0, 1) := by decide +kernel
theorem dX3_facingOf_1 : decode cX3_facingOf 1 = .ok (.bipush 6, 2) := by decide +kernel
theorem dX3_facingOf_3 : decode cX3_facingOf 3 = .ok (.iload_n 2, 1) := by decide +kernel
theorem dX3_facingOf_4 : decode cX3_facingOf 4 = .ok (.imul, 1) := by decide +kernel
theorem dX3_facingOf_5 : decode cX3_facingOf 5 = .ok (.iconst 4, 1) := by decide +kernel
theorem dX3_facingOf_6 : decode cX3_facingOf 6 = .ok (.iadd, 1) := by decide +kernel
theorem dX3_facingOf_7 : decode cX3_facingOf 7 = .ok (.lshr, 1) := by decide +kernel
theorem dX3_facingOf_8 : decode cX3_facingOf 8 = .ok (.l2i, 1) := by decide +kernel
theorem dX3_facingOf_9 : decode cX3_facingOf 9 = .ok (.iconst 3, 1) := by decide +kernel
theorem dX3_facingOf_10 : decode cX3_facingOf 10 = .ok (.iand, 1) := by decide +kernel
theorem dX3_facingOf_11 : decode cX3_facingOf 11 = .ok (.ireturn, 1) := by decide +kernel
theorem dX3_of_0 : decode cX3_of 0 = .ok (.lconst 0, 1) := by decide +kernel
theorem dX3_of_1 : decode cX3_of 1 = .ok (.lstore_n 2, 1) := by decide +kernel
theorem dX3_of_2 : decode cX3_of 2 = .ok (.iconst 0, 1) := by decide +kernel
theorem dX3_of_3 : decode cX3_of 3 = .ok (.istore 4, 2) := by decide +kernel
theorem dX3_of_5 : decode cX3_of 5 = .ok (.iload 4, 2) := by decide +kernel
theorem dX3_of_7 : decode cX3_of 7 = .ok (.bipush 8, 2) := by decide +kernel
theorem dX3_of_9 : decode cX3_of 9 = .ok (.if_icmp .ge 39, 3) := by decide +kernel
theorem dX3_of_12 : decode cX3_of 12 = .ok (.iload 4, 2) := by decide +kernel
theorem dX3_of_14 : decode cX3_of 14 = .ok (.aload_n 0, 1) := by decide +kernel
theorem dX3_of_15 : decode cX3_of 15 = .ok (.arraylength, 1) := by decide +kernel
theorem dX3_of_16 : decode cX3_of 16 = .ok (.if_icmp .ge 32, 3) := by decide +kernel
theorem dX3_of_19 : decode cX3_of 19 = .ok (.iload 4, 2) := by decide +kernel
theorem dX3_of_21 : decode cX3_of 21 = .ok (.aload_n 1, 1) := by decide +kernel
theorem dX3_of_22 : decode cX3_of 22 = .ok (.arraylength, 1) := by decide +kernel
theorem dX3_of_23 : decode cX3_of 23 = .ok (.if_icmp .ge 25, 3) := by decide +kernel
theorem dX3_of_26 : decode cX3_of 26 = .ok (.lload_n 2, 1) := by decide +kernel
theorem dX3_of_27 : decode cX3_of 27 = .ok (.iload 4, 2) := by decide +kernel
theorem dX3_of_29 : decode cX3_of 29 = .ok (.aload_n 0, 1) := by decide +kernel
theorem dX3_of_30 : decode cX3_of 30 = .ok (.iload 4, 2) := by decide +kernel
theorem dX3_of_32 : decode cX3_of 32 = .ok (.iaload, 1) := by decide +kernel
theorem dX3_of_33 : decode cX3_of 33 = .ok (.aload_n 1, 1) := by decide +kernel
theorem dX3_of_34 : decode cX3_of 34 = .ok (.iload 4, 2) := by decide +kernel
theorem dX3_of_36 : decode cX3_of 36 = .ok (.iaload, 1) := by decide +kernel
theorem dX3_of_37 : decode cX3_of 37 = .ok (.invokestatic 11, 3) := by decide +kernel
theorem dX3_of_40 : decode cX3_of 40 = .ok (.lor, 1) := by decide +kernel
theorem dX3_of_41 : decode cX3_of 41 = .ok (.lstore_n 2, 1) := by decide +kernel
theorem dX3_of_42 : decode cX3_of 42 = .ok (.iinc 4 1, 3) := by decide +kernel
theorem dX3_of_45 : decode cX3_of 45 = .ok (.goto (-40), 3) := by decide +kernel
theorem dX3_of_48 : decode cX3_of 48 = .ok (.lload_n 2, 1) := by decide +kernel
theorem dX3_of_49 : decode cX3_of 49 = .ok (.lreturn, 1) := by decide +kernel
theorem dX3_atFirst_0 : decode cX3_atFirst 0 = .ok (.getstatic 15, 3) := by decide +kernel
theorem dX3_atFirst_3 : decode cX3_atFirst 3 = .ok (.getstatic 19, 3) := by decide +kernel
theorem dX3_atFirst_6 : decode cX3_atFirst 6 = .ok (.invokestatic 22, 3) := by decide +kernel
theorem dX3_atFirst_9 : decode cX3_atFirst 9 = .ok (.lreturn, 1) := by decide +kernel
theorem dX3_turned_0 : decode cX3_turned 0 = .ok (.lconst 0, 1) := by decide +kernel
theorem dX3_turned_1 : decode cX3_turned 1 = .ok (.lstore_n 3, 1) := by decide +kernel
theorem dX3_turned_2 : decode cX3_turned 2 = .ok (.iconst 0, 1) := by decide +kernel
theorem dX3_turned_3 : decode cX3_turned 3 = .ok (.istore 5, 2) := by decide +kernel
theorem dX3_turned_5 : decode cX3_turned 5 = .ok (.iload 5, 2) := by decide +kernel
theorem dX3_turned_7 : decode cX3_turned 7 = .ok (.bipush 8, 2) := by decide +kernel
theorem dX3_turned_9 : decode cX3_turned 9 = .ok (.if_icmp .ge 74, 3) := by decide +kernel
theorem dX3_turned_12 : decode cX3_turned 12 = .ok (.lload_n 0, 1) := by decide +kernel
theorem dX3_turned_13 : decode cX3_turned 13 = .ok (.iload 5, 2) := by decide +kernel
theorem dX3_turned_15 : decode cX3_turned 15 = .ok (.invokestatic 26, 3) := by decide +kernel
theorem dX3_turned_18 : decode cX3_turned 18 = .ok (.istore 6, 2) := by decide +kernel
theorem dX3_turned_20 : decode cX3_turned 20 = .ok (.iconst 3, 1) := by decide +kernel
theorem dX3_turned_21 : decode cX3_turned 21 = .ok (.iload 6, 2) := by decide +kernel
theorem dX3_turned_23 : decode cX3_turned 23 = .ok (.iconst 4, 1) := by decide +kernel
theorem dX3_turned_24 : decode cX3_turned 24 = .ok (.idiv, 1) := by decide +kernel
theorem dX3_turned_25 : decode cX3_turned 25 = .ok (.isub, 1) := by decide +kernel
theorem dX3_turned_26 : decode cX3_turned 26 = .ok (.istore 7, 2) := by decide +kernel
theorem dX3_turned_28 : decode cX3_turned 28 = .ok (.iload 6, 2) := by decide +kernel
theorem dX3_turned_30 : decode cX3_turned 30 = .ok (.iconst 4, 1) := by decide +kernel
theorem dX3_turned_31 : decode cX3_turned 31 = .ok (.irem, 1) := by decide +kernel
theorem dX3_turned_32 : decode cX3_turned 32 = .ok (.istore 8, 2) := by decide +kernel
theorem dX3_turned_34 : decode cX3_turned 34 = .ok (.iload_n 2, 1) := by decide +kernel
theorem dX3_turned_35 : decode cX3_turned 35 = .ok (.ifCond .eq 13, 3) := by decide +kernel
theorem dX3_turned_38 : decode cX3_turned 38 = .ok (.iload 5, 2) := by decide +kernel
theorem dX3_turned_40 : decode cX3_turned 40 = .ok (.iconst 2, 1) := by decide +kernel
theorem dX3_turned_41 : decode cX3_turned 41 = .ok (.iadd, 1) := by decide +kernel
theorem dX3_turned_42 : decode cX3_turned 42 = .ok (.bipush 8, 2) := by decide +kernel
theorem dX3_turned_44 : decode cX3_turned 44 = .ok (.irem, 1) := by decide +kernel
theorem dX3_turned_45 : decode cX3_turned 45 = .ok (.goto 5, 3) := by decide +kernel
theorem dX3_turned_48 : decode cX3_turned 48 = .ok (.iload 5, 2) := by decide +kernel
theorem dX3_turned_50 : decode cX3_turned 50 = .ok (.istore 9, 2) := by decide +kernel
theorem dX3_turned_52 : decode cX3_turned 52 = .ok (.lload_n 3, 1) := by decide +kernel
theorem dX3_turned_53 : decode cX3_turned 53 = .ok (.iload 9, 2) := by decide +kernel
theorem dX3_turned_55 : decode cX3_turned 55 = .ok (.iconst 4, 1) := by decide +kernel
theorem dX3_turned_56 : decode cX3_turned 56 = .ok (.iload 8, 2) := by decide +kernel
theorem dX3_turned_58 : decode cX3_turned 58 = .ok (.imul, 1) := by decide +kernel
theorem dX3_turned_59 : decode cX3_turned 59 = .ok (.iload 7, 2) := by decide +kernel
theorem dX3_turned_61 : decode cX3_turned 61 = .ok (.iadd, 1) := by decide +kernel
theorem dX3_turned_62 : decode cX3_turned 62 = .ok (.lload_n 0, 1) := by decide +kernel
theorem dX3_turned_63 : decode cX3_turned 63 = .ok (.iload 5, 2) := by decide +kernel
theorem dX3_turned_65 : decode cX3_turned 65 = .ok (.invokestatic 30, 3) := by decide +kernel
theorem dX3_turned_68 : decode cX3_turned 68 = .ok (.iconst 3, 1) := by decide +kernel
theorem dX3_turned_69 : decode cX3_turned 69 = .ok (.iadd, 1) := by decide +kernel
theorem dX3_turned_70 : decode cX3_turned 70 = .ok (.iconst 4, 1) := by decide +kernel
theorem dX3_turned_71 : decode cX3_turned 71 = .ok (.irem, 1) := by decide +kernel
theorem dX3_turned_72 : decode cX3_turned 72 = .ok (.invokestatic 11, 3) := by decide +kernel
theorem dX3_turned_75 : decode cX3_turned 75 = .ok (.lor, 1) := by decide +kernel
theorem dX3_turned_76 : decode cX3_turned 76 = .ok (.lstore_n 3, 1) := by decide +kernel
theorem dX3_turned_77 : decode cX3_turned 77 = .ok (.iinc 5 1, 3) := by decide +kernel
theorem dX3_turned_80 : decode cX3_turned 80 = .ok (.goto (-75), 3) := by decide +kernel
theorem dX3_turned_83 : decode cX3_turned 83 = .ok (.lload_n 3, 1) := by decide +kernel
theorem dX3_turned_84 : decode cX3_turned 84 = .ok (.lreturn, 1) := by decide +kernel
theorem dX3_least_0 : decode cX3_least 0 = .ok (.lload_n 0, 1) := by decide +kernel
theorem dX3_least_1 : decode cX3_least 1 = .ok (.lstore_n 3, 1) := by decide +kernel
theorem dX3_least_2 : decode cX3_least 2 = .ok (.lload_n 0, 1) := by decide +kernel
theorem dX3_least_3 : decode cX3_least 3 = .ok (.lstore 5, 2) := by decide +kernel
theorem dX3_least_5 : decode cX3_least 5 = .ok (.iconst 1, 1) := by decide +kernel
theorem dX3_least_6 : decode cX3_least 6 = .ok (.istore 7, 2) := by decide +kernel
theorem dX3_least_8 : decode cX3_least 8 = .ok (.iload 7, 2) := by decide +kernel
theorem dX3_least_10 : decode cX3_least 10 = .ok (.iconst 4, 1) := by decide +kernel
theorem dX3_least_11 : decode cX3_least 11 = .ok (.if_icmp .ge 24, 3) := by decide +kernel
theorem dX3_least_14 : decode cX3_least 14 = .ok (.lload 5, 2) := by decide +kernel
theorem dX3_least_16 : decode cX3_least 16 = .ok (.iload_n 2, 1) := by decide +kernel
theorem dX3_least_17 : decode cX3_least 17 = .ok (.invokestatic 33, 3) := by decide +kernel
theorem dX3_least_20 : decode cX3_least 20 = .ok (.lstore 5, 2) := by decide +kernel
theorem dX3_least_22 : decode cX3_least 22 = .ok (.lload_n 3, 1) := by decide +kernel
theorem dX3_least_23 : decode cX3_least 23 = .ok (.lload 5, 2) := by decide +kernel
theorem dX3_least_25 : decode cX3_least 25 = .ok (.invokestatic 37, 3) := by decide +kernel
theorem dX3_least_28 : decode cX3_least 28 = .ok (.lstore_n 3, 1) := by decide +kernel
theorem dX3_least_29 : decode cX3_least 29 = .ok (.iinc 7 1, 3) := by decide +kernel
theorem dX3_least_32 : decode cX3_least 32 = .ok (.goto (-24), 3) := by decide +kernel
theorem dX3_least_35 : decode cX3_least 35 = .ok (.lload_n 3, 1) := by decide +kernel
theorem dX3_least_36 : decode cX3_least 36 = .ok (.lreturn, 1) := by decide +kernel
theorem dX3_isAmong_0 : decode cX3_isAmong 0 = .ok (.iconst 0, 1) := by decide +kernel
theorem dX3_isAmong_1 : decode cX3_isAmong 1 = .ok (.istore 4, 2) := by decide +kernel
theorem dX3_isAmong_3 : decode cX3_isAmong 3 = .ok (.iload 4, 2) := by decide +kernel
theorem dX3_isAmong_5 : decode cX3_isAmong 5 = .ok (.iload_n 3, 1) := by decide +kernel
theorem dX3_isAmong_6 : decode cX3_isAmong 6 = .ok (.if_icmp .ge 27, 3) := by decide +kernel
theorem dX3_isAmong_9 : decode cX3_isAmong 9 = .ok (.iload 4, 2) := by decide +kernel
theorem dX3_isAmong_11 : decode cX3_isAmong 11 = .ok (.aload_n 2, 1) := by decide +kernel
theorem dX3_isAmong_12 : decode cX3_isAmong 12 = .ok (.arraylength, 1) := by decide +kernel
theorem dX3_isAmong_13 : decode cX3_isAmong 13 = .ok (.if_icmp .ge 20, 3) := by decide +kernel
theorem dX3_isAmong_16 : decode cX3_isAmong 16 = .ok (.aload_n 2, 1) := by decide +kernel
theorem dX3_isAmong_17 : decode cX3_isAmong 17 = .ok (.iload 4, 2) := by decide +kernel
theorem dX3_isAmong_19 : decode cX3_isAmong 19 = .ok (.laload, 1) := by decide +kernel
theorem dX3_isAmong_20 : decode cX3_isAmong 20 = .ok (.lload_n 0, 1) := by decide +kernel
theorem dX3_isAmong_21 : decode cX3_isAmong 21 = .ok (.lcmp, 1) := by decide +kernel
theorem dX3_isAmong_22 : decode cX3_isAmong 22 = .ok (.ifCond .ne 5, 3) := by decide +kernel
theorem dX3_isAmong_25 : decode cX3_isAmong 25 = .ok (.iconst 1, 1) := by decide +kernel
theorem dX3_isAmong_26 : decode cX3_isAmong 26 = .ok (.ireturn, 1) := by decide +kernel
theorem dX3_isAmong_27 : decode cX3_isAmong 27 = .ok (.iinc 4 1, 3) := by decide +kernel
theorem dX3_isAmong_30 : decode cX3_isAmong 30 = .ok (.goto (-27), 3) := by decide +kernel
theorem dX3_isAmong_33 : decode cX3_isAmong 33 = .ok (.iconst 0, 1) := by decide +kernel
theorem dX3_isAmong_34 : decode cX3_isAmong 34 = .ok (.ireturn, 1) := by decide +kernel
theorem dX4_init_0 : decode cX4_init 0 = .ok (.aload_n 0, 1) := by decide +kernel
theorem dX4_init_1 : decode cX4_init 1 = .ok (.invokespecial 3, 3) := by decide +kernel
theorem dX4_init_4 : decode cX4_init 4 = .ok (.aload_n 0, 1) := by decide +kernel
theorem dX4_init_5 : decode cX4_init 5 = .ok (.iconst 0, 1) := by decide +kernel
theorem dX4_init_6 : decode cX4_init 6 = .ok (.putfield 9, 3) := by decide +kernel
theorem dX4_init_9 : decode cX4_init 9 = .ok (.aload_n 0, 1) := by decide +kernel
theorem dX4_init_10 : decode cX4_init 10 = .ok (.iconst 0, 1) := by decide +kernel
theorem dX4_init_11 : decode cX4_init 11 = .ok (.putfield 15, 3) := by decide +kernel
theorem dX4_init_14 : decode cX4_init 14 = .ok (.aload_n 0, 1) := by decide +kernel
theorem dX4_init_15 : decode cX4_init 15 = .ok (.iconst 0, 1) := by decide +kernel
theorem dX4_init_16 : decode cX4_init 16 = .ok (.putfield 18, 3) := by decide +kernel
theorem dX4_init_19 : decode cX4_init 19 = .ok (.return_, 1) := by decide +kernel
theorem dX4_write_0 : decode cX4_write 0 = .ok (.aload_n 0, 1) := by decide +kernel
theorem dX4_write_1 : decode cX4_write 1 = .ok (.iload_n 2, 1) := by decide +kernel
theorem dX4_write_2 : decode cX4_write 2 = .ok (.putfield 9, 3) := by decide +kernel
theorem dX4_write_5 : decode cX4_write 5 = .ok (.aload_n 0, 1) := by decide +kernel
theorem dX4_write_6 : decode cX4_write 6 = .ok (.iconst 0, 1) := by decide +kernel
theorem dX4_write_7 : decode cX4_write 7 = .ok (.putfield 18, 3) := by decide +kernel
theorem dX4_write_10 : decode cX4_write 10 = .ok (.iconst 1, 1) := by decide +kernel
theorem dX4_write_11 : decode cX4_write 11 = .ok (.istore_n 3, 1) := by decide +kernel
theorem dX4_write_12 : decode cX4_write 12 = .ok (.iconst 0, 1) := by decide +kernel
theorem dX4_write_13 : decode cX4_write 13 = .ok (.istore 4, 2) := by decide +kernel
theorem dX4_write_15 : decode cX4_write 15 = .ok (.iload 4, 2) := by decide +kernel
theorem dX4_write_17 : decode cX4_write 17 = .ok (.aload_n 1, 1) := by decide +kernel
theorem dX4_write_18 : decode cX4_write 18 = .ok (.getfield 21, 3) := by decide +kernel
theorem dX4_write_21 : decode cX4_write 21 = .ok (.if_icmp .ge 41, 3) := by decide +kernel
theorem dX4_write_24 : decode cX4_write 24 = .ok (.aload_n 1, 1) := by decide +kernel
theorem dX4_write_25 : decode cX4_write 25 = .ok (.iload 4, 2) := by decide +kernel
theorem dX4_write_27 : decode cX4_write 27 = .ok (.invokevirtual 26, 3) := by decide +kernel
theorem dX4_write_30 : decode cX4_write 30 = .ok (.istore_n 3, 1) := by decide +kernel
theorem dX4_write_31 : decode cX4_write 31 = .ok (.iload 4, 2) := by decide +kernel
theorem dX4_write_33 : decode cX4_write 33 = .ok (.ifCond .le 9, 3) := by decide +kernel
theorem dX4_write_36 : decode cX4_write 36 = .ok (.aload_n 0, 1) := by decide +kernel
theorem dX4_write_37 : decode cX4_write 37 = .ok (.bipush 44, 2) := by decide +kernel
theorem dX4_write_39 : decode cX4_write 39 = .ok (.invokevirtual 30, 3) := by decide +kernel
theorem dX4_write_42 : decode cX4_write 42 = .ok (.aload_n 0, 1) := by decide +kernel
theorem dX4_write_43 : decode cX4_write 43 = .ok (.aload_n 1, 1) := by decide +kernel
theorem dX4_write_44 : decode cX4_write 44 = .ok (.iload 4, 2) := by decide +kernel
theorem dX4_write_46 : decode cX4_write 46 = .ok (.invokevirtual 34, 3) := by decide +kernel
theorem dX4_write_49 : decode cX4_write 49 = .ok (.iload_n 3, 1) := by decide +kernel
theorem dX4_write_50 : decode cX4_write 50 = .ok (.invokevirtual 37, 3) := by decide +kernel
theorem dX4_write_53 : decode cX4_write 53 = .ok (.iload 4, 2) := by decide +kernel
theorem dX4_write_55 : decode cX4_write 55 = .ok (.iload_n 3, 1) := by decide +kernel
theorem dX4_write_56 : decode cX4_write 56 = .ok (.iadd, 1) := by decide +kernel
theorem dX4_write_57 : decode cX4_write 57 = .ok (.istore 4, 2) := by decide +kernel
theorem dX4_write_59 : decode cX4_write 59 = .ok (.goto (-44), 3) := by decide +kernel
theorem dX4_write_62 : decode cX4_write 62 = .ok (.return_, 1) := by decide +kernel
theorem dX4_writeCall_0 : decode cX4_writeCall 0 = .ok (.iload_n 1, 1) := by decide +kernel
theorem dX4_writeCall_1 : decode cX4_writeCall 1 = .ok (.bipush 100, 2) := by decide +kernel
theorem dX4_writeCall_3 : decode cX4_writeCall 3 = .ok (.idiv, 1) := by decide +kernel
theorem dX4_writeCall_4 : decode cX4_writeCall 4 = .ok (.istore_n 3, 1) := by decide +kernel
theorem dX4_writeCall_5 : decode cX4_writeCall 5 = .ok (.iload_n 3, 1) := by decide +kernel
theorem dX4_writeCall_6 : decode cX4_writeCall 6 = .ok (.ifCond .eq 17, 3) := by decide +kernel
theorem dX4_writeCall_9 : decode cX4_writeCall 9 = .ok (.aload_n 0, 1) := by decide +kernel
theorem dX4_writeCall_10 : decode cX4_writeCall 10 = .ok (.iload_n 3, 1) := by decide +kernel
theorem dX4_writeCall_11 : decode cX4_writeCall 11 = .ok (.invokestatic 41, 3) := by decide +kernel
theorem dX4_writeCall_14 : decode cX4_writeCall 14 = .ok (.invokevirtual 47, 3) := by decide +kernel
theorem dX4_writeCall_17 : decode cX4_writeCall 17 = .ok (.aload_n 0, 1) := by decide +kernel
theorem dX4_writeCall_18 : decode cX4_writeCall 18 = .ok (.bipush 32, 2) := by decide +kernel
theorem dX4_writeCall_20 : decode cX4_writeCall 20 = .ok (.invokevirtual 30, 3) := by decide +kernel
theorem dX4_writeCall_23 : decode cX4_writeCall 23 = .ok (.aload_n 0, 1) := by decide +kernel
theorem dX4_writeCall_24 : decode cX4_writeCall 24 = .ok (.iload_n 1, 1) := by decide +kernel
theorem dX4_writeCall_25 : decode cX4_writeCall 25 = .ok (.bipush 100, 2) := by decide +kernel
theorem dX4_writeCall_27 : decode cX4_writeCall 27 = .ok (.irem, 1) := by decide +kernel
theorem dX4_writeCall_28 : decode cX4_writeCall 28 = .ok (.invokestatic 51, 3) := by decide +kernel
theorem dX4_writeCall_31 : decode cX4_writeCall 31 = .ok (.invokevirtual 47, 3) := by decide +kernel
theorem dX4_writeCall_34 : decode cX4_writeCall 34 = .ok (.iload_n 2, 1) := by decide +kernel
theorem dX4_writeCall_35 : decode cX4_writeCall 35 = .ok (.iconst 1, 1) := by decide +kernel
theorem dX4_writeCall_36 : decode cX4_writeCall 36 = .ok (.if_icmp .le 17, 3) := by decide +kernel
theorem dX4_writeCall_39 : decode cX4_writeCall 39 = .ok (.aload_n 0, 1) := by decide +kernel
theorem dX4_writeCall_40 : decode cX4_writeCall 40 = .ok (.bipush 32, 2) := by decide +kernel
theorem dX4_writeCall_42 : decode cX4_writeCall 42 = .ok (.invokevirtual 30, 3) := by decide +kernel
theorem dX4_writeCall_45 : decode cX4_writeCall 45 = .ok (.aload_n 0, 1) := by decide +kernel
theorem dX4_writeCall_46 : decode cX4_writeCall 46 = .ok (.bipush 48, 2) := by decide +kernel
theorem dX4_writeCall_48 : decode cX4_writeCall 48 = .ok (.iload_n 2, 1) := by decide +kernel
theorem dX4_writeCall_49 : decode cX4_writeCall 49 = .ok (.iadd, 1) := by decide +kernel
theorem dX4_writeCall_50 : decode cX4_writeCall 50 = .ok (.invokevirtual 30, 3) := by decide +kernel
theorem dX4_writeCall_53 : decode cX4_writeCall 53 = .ok (.return_, 1) := by decide +kernel
theorem dX4_putWord_0 : decode cX4_putWord 0 = .ok (.iconst 0, 1) := by decide +kernel
theorem dX4_putWord_1 : decode cX4_putWord 1 = .ok (.istore_n 2, 1) := by decide +kernel
theorem dX4_putWord_2 : decode cX4_putWord 2 = .ok (.iload_n 2, 1) := by decide +kernel
theorem dX4_putWord_3 : decode cX4_putWord 3 = .ok (.aload_n 1, 1) := by decide +kernel
theorem dX4_putWord_4 : decode cX4_putWord 4 = .ok (.invokevirtual 54, 3) := by decide +kernel
theorem dX4_putWord_7 : decode cX4_putWord 7 = .ok (.if_icmp .ge 18, 3) := by decide +kernel
theorem dX4_putWord_10 : decode cX4_putWord 10 = .ok (.aload_n 0, 1) := by decide +kernel
theorem dX4_putWord_11 : decode cX4_putWord 11 = .ok (.aload_n 1, 1) := by decide +kernel
theorem dX4_putWord_12 : decode cX4_putWord 12 = .ok (.iload_n 2, 1) := by decide +kernel
theorem dX4_putWord_13 : decode cX4_putWord 13 = .ok (.invokevirtual 59, 3) := by decide +kernel
theorem dX4_putWord_16 : decode cX4_putWord 16 = .ok (.invokevirtual 30, 3) := by decide +kernel
theorem dX4_putWord_19 : decode cX4_putWord 19 = .ok (.iinc 2 1, 3) := by decide +kernel
theorem dX4_putWord_22 : decode cX4_putWord 22 = .ok (.goto (-20), 3) := by decide +kernel
theorem dX4_putWord_25 : decode cX4_putWord 25 = .ok (.return_, 1) := by decide +kernel
theorem dX4_put_0 : decode cX4_put 0 = .ok (.aload_n 0, 1) := by decide +kernel
theorem dX4_put_1 : decode cX4_put 1 = .ok (.getfield 18, 3) := by decide +kernel
theorem dX4_put_4 : decode cX4_put 4 = .ok (.aload_n 0, 1) := by decide +kernel
theorem dX4_put_5 : decode cX4_put 5 = .ok (.getfield 9, 3) := by decide +kernel
theorem dX4_put_8 : decode cX4_put 8 = .ok (.if_icmp .ne 8, 3) := by decide +kernel
theorem dX4_put_11 : decode cX4_put 11 = .ok (.aload_n 0, 1) := by decide +kernel
theorem dX4_put_12 : decode cX4_put 12 = .ok (.iload_n 1, 1) := by decide +kernel
theorem dX4_put_13 : decode cX4_put 13 = .ok (.putfield 15, 3) := by decide +kernel
theorem dX4_put_16 : decode cX4_put 16 = .ok (.aload_n 0, 1) := by decide +kernel
theorem dX4_put_17 : decode cX4_put 17 = .ok (.dup, 1) := by decide +kernel
theorem dX4_put_18 : decode cX4_put 18 = .ok (.getfield 18, 3) := by decide +kernel
theorem dX4_put_21 : decode cX4_put 21 = .ok (.iconst 1, 1) := by decide +kernel
theorem dX4_put_22 : decode cX4_put 22 = .ok (.iadd, 1) := by decide +kernel
theorem dX4_put_23 : decode cX4_put 23 = .ok (.putfield 18, 3) := by decide +kernel
theorem dX4_put_26 : decode cX4_put 26 = .ok (.return_, 1) := by decide +kernel
theorem dX5_init_0 : decode cX5_init 0 = .ok (.aload_n 0, 1) := by decide +kernel
theorem dX5_init_1 : decode cX5_init 1 = .ok (.invokespecial 3, 3) := by decide +kernel
theorem dX5_init_4 : decode cX5_init 4 = .ok (.aload_n 0, 1) := by decide +kernel
theorem dX5_init_5 : decode cX5_init 5 = .ok (.bipush 120, 2) := by decide +kernel
theorem dX5_init_7 : decode cX5_init 7 = .ok (.newarray .int, 2) := by decide +kernel
theorem dX5_init_9 : decode cX5_init 9 = .ok (.putfield 11, 3) := by decide +kernel
theorem dX5_init_12 : decode cX5_init 12 = .ok (.aload_n 0, 1) := by decide +kernel
theorem dX5_init_13 : decode cX5_init 13 = .ok (.iconst 0, 1) := by decide +kernel
theorem dX5_init_14 : decode cX5_init 14 = .ok (.putfield 15, 3) := by decide +kernel
theorem dX5_init_17 : decode cX5_init 17 = .ok (.aload_n 0, 1) := by decide +kernel
theorem dX5_init_18 : decode cX5_init 18 = .ok (.bipush 120, 2) := by decide +kernel
theorem dX5_init_20 : decode cX5_init 20 = .ok (.newarray .int, 2) := by decide +kernel
theorem dX5_init_22 : decode cX5_init 22 = .ok (.putfield 19, 3) := by decide +kernel
theorem dX5_init_25 : decode cX5_init 25 = .ok (.aload_n 0, 1) := by decide +kernel
theorem dX5_init_26 : decode cX5_init 26 = .ok (.iconst 0, 1) := by decide +kernel
theorem dX5_init_27 : decode cX5_init 27 = .ok (.putfield 22, 3) := by decide +kernel
theorem dX5_init_30 : decode cX5_init 30 = .ok (.return_, 1) := by decide +kernel
theorem dX5_put_0 : decode cX5_put 0 = .ok (.aload_n 0, 1) := by decide +kernel
theorem dX5_put_1 : decode cX5_put 1 = .ok (.getfield 15, 3) := by decide +kernel
theorem dX5_put_4 : decode cX5_put 4 = .ok (.bipush 120, 2) := by decide +kernel
theorem dX5_put_6 : decode cX5_put 6 = .ok (.if_icmp .lt 5, 3) := by decide +kernel
theorem dX5_put_9 : decode cX5_put 9 = .ok (.iconst 0, 1) := by decide +kernel
theorem dX5_put_10 : decode cX5_put 10 = .ok (.ireturn, 1) := by decide +kernel
theorem dX5_put_11 : decode cX5_put 11 = .ok (.aload_n 0, 1) := by decide +kernel
theorem dX5_put_12 : decode cX5_put 12 = .ok (.getfield 11, 3) := by decide +kernel
theorem dX5_put_15 : decode cX5_put 15 = .ok (.aload_n 0, 1) := by decide +kernel
theorem dX5_put_16 : decode cX5_put 16 = .ok (.getfield 15, 3) := by decide +kernel
theorem dX5_put_19 : decode cX5_put 19 = .ok (.iload_n 1, 1) := by decide +kernel
theorem dX5_put_20 : decode cX5_put 20 = .ok (.iastore, 1) := by decide +kernel
theorem dX5_put_21 : decode cX5_put 21 = .ok (.aload_n 0, 1) := by decide +kernel
theorem dX5_put_22 : decode cX5_put 22 = .ok (.dup, 1) := by decide +kernel
theorem dX5_put_23 : decode cX5_put 23 = .ok (.getfield 15, 3) := by decide +kernel
theorem dX5_put_26 : decode cX5_put 26 = .ok (.iconst 1, 1) := by decide +kernel
theorem dX5_put_27 : decode cX5_put 27 = .ok (.iadd, 1) := by decide +kernel
theorem dX5_put_28 : decode cX5_put 28 = .ok (.putfield 15, 3) := by decide +kernel
theorem dX5_put_31 : decode cX5_put 31 = .ok (.iconst 1, 1) := by decide +kernel
theorem dX5_put_32 : decode cX5_put 32 = .ok (.ireturn, 1) := by decide +kernel
theorem dX5_take_0 : decode cX5_take 0 = .ok (.aload_n 0, 1) := by decide +kernel
theorem dX5_take_1 : decode cX5_take 1 = .ok (.iconst 0, 1) := by decide +kernel
theorem dX5_take_2 : decode cX5_take 2 = .ok (.putfield 22, 3) := by decide +kernel
theorem dX5_take_5 : decode cX5_take 5 = .ok (.aload_n 0, 1) := by decide +kernel
theorem dX5_take_6 : decode cX5_take 6 = .ok (.invokevirtual 25, 3) := by decide +kernel
theorem dX5_take_9 : decode cX5_take 9 = .ok (.istore_n 1, 1) := by decide +kernel
theorem dX5_take_10 : decode cX5_take 10 = .ok (.aload_n 0, 1) := by decide +kernel
theorem dX5_take_11 : decode cX5_take 11 = .ok (.iconst 0, 1) := by decide +kernel
theorem dX5_take_12 : decode cX5_take 12 = .ok (.putfield 15, 3) := by decide +kernel
theorem dX5_take_15 : decode cX5_take 15 = .ok (.iload_n 1, 1) := by decide +kernel
theorem dX5_take_16 : decode cX5_take 16 = .ok (.ireturn, 1) := by decide +kernel
theorem dX5_codeAt_0 : decode cX5_codeAt 0 = .ok (.iload_n 1, 1) := by decide +kernel
theorem dX5_codeAt_1 : decode cX5_codeAt 1 = .ok (.ifCond .lt 20, 3) := by decide +kernel
theorem dX5_codeAt_4 : decode cX5_codeAt 4 = .ok (.iload_n 1, 1) := by decide +kernel
theorem dX5_codeAt_5 : decode cX5_codeAt 5 = .ok (.aload_n 0, 1) := by decide +kernel
theorem dX5_codeAt_6 : decode cX5_codeAt 6 = .ok (.getfield 22, 3) := by decide +kernel
theorem dX5_codeAt_9 : decode cX5_codeAt 9 = .ok (.if_icmp .ge 12, 3) := by decide +kernel
theorem dX5_codeAt_12 : decode cX5_codeAt 12 = .ok (.aload_n 0, 1) := by decide +kernel
theorem dX5_codeAt_13 : decode cX5_codeAt 13 = .ok (.getfield 19, 3) := by decide +kernel
theorem dX5_codeAt_16 : decode cX5_codeAt 16 = .ok (.iload_n 1, 1) := by decide +kernel
theorem dX5_codeAt_17 : decode cX5_codeAt 17 = .ok (.iaload, 1) := by decide +kernel
theorem dX5_codeAt_18 : decode cX5_codeAt 18 = .ok (.goto 4, 3) := by decide +kernel
theorem dX5_codeAt_21 : decode cX5_codeAt 21 = .ok (.iconst 0, 1) := by decide +kernel
theorem dX5_codeAt_22 : decode cX5_codeAt 22 = .ok (.ireturn, 1) := by decide +kernel
theorem dX5_readText_0 : decode cX5_readText 0 = .ok (.iconst 0, 1) := by decide +kernel
theorem dX5_readText_1 : decode cX5_readText 1 = .ok (.istore_n 1, 1) := by decide +kernel
theorem dX5_readText_2 : decode cX5_readText 2 = .ok (.iconst 0, 1) := by decide +kernel
theorem dX5_readText_3 : decode cX5_readText 3 = .ok (.istore_n 2, 1) := by decide +kernel
theorem dX5_readText_4 : decode cX5_readText 4 = .ok (.iload_n 2, 1) := by decide +kernel
theorem dX5_readText_5 : decode cX5_readText 5 = .ok (.bipush 120, 2) := by decide +kernel
theorem dX5_readText_7 : decode cX5_readText 7 = .ok (.if_icmp .gt 49, 3) := by decide +kernel
theorem dX5_readText_10 : decode cX5_readText 10 = .ok (.aload_n 0, 1) := by decide +kernel
theorem dX5_readText_11 : decode cX5_readText 11 = .ok (.iload_n 1, 1) := by decide +kernel
theorem dX5_readText_12 : decode cX5_readText 12 = .ok (.invokevirtual 29, 3) := by decide +kernel
theorem dX5_readText_15 : decode cX5_readText 15 = .ok (.istore_n 3, 1) := by decide +kernel
theorem dX5_readText_16 : decode cX5_readText 16 = .ok (.iload_n 3, 1) := by decide +kernel
theorem dX5_readText_17 : decode cX5_readText 17 = .ok (.ifCond .ge 7, 3) := by decide +kernel
theorem dX5_readText_20 : decode cX5_readText 20 = .ok (.iconst (-1), 1) := by decide +kernel
theorem dX5_readText_21 : decode cX5_readText 21 = .ok (.iload_n 3, 1) := by decide +kernel
theorem dX5_readText_22 : decode cX5_readText 22 = .ok (.isub, 1) := by decide +kernel
theorem dX5_readText_23 : decode cX5_readText 23 = .ok (.ireturn, 1) := by decide +kernel
theorem dX5_readText_24 : decode cX5_readText 24 = .ok (.iload_n 3, 1) := by decide +kernel
theorem dX5_readText_25 : decode cX5_readText 25 = .ok (.aload_n 0, 1) := by decide +kernel
theorem dX5_readText_26 : decode cX5_readText 26 = .ok (.getfield 15, 3) := by decide +kernel
theorem dX5_readText_29 : decode cX5_readText 29 = .ok (.if_icmp .ne 5, 3) := by decide +kernel
theorem dX5_readText_32 : decode cX5_readText 32 = .ok (.iconst (-1), 1) := by decide +kernel
theorem dX5_readText_33 : decode cX5_readText 33 = .ok (.ireturn, 1) := by decide +kernel
theorem dX5_readText_34 : decode cX5_readText 34 = .ok (.aload_n 0, 1) := by decide +kernel
theorem dX5_readText_35 : decode cX5_readText 35 = .ok (.iload_n 3, 1) := by decide +kernel
theorem dX5_readText_36 : decode cX5_readText 36 = .ok (.invokevirtual 33, 3) := by decide +kernel
theorem dX5_readText_39 : decode cX5_readText 39 = .ok (.bipush 44, 2) := by decide +kernel
theorem dX5_readText_41 : decode cX5_readText 41 = .ok (.if_icmp .eq 5, 3) := by decide +kernel
theorem dX5_readText_44 : decode cX5_readText 44 = .ok (.iload_n 3, 1) := by decide +kernel
theorem dX5_readText_45 : decode cX5_readText 45 = .ok (.ireturn, 1) := by decide +kernel
theorem dX5_readText_46 : decode cX5_readText 46 = .ok (.iload_n 3, 1) := by decide +kernel
theorem dX5_readText_47 : decode cX5_readText 47 = .ok (.iconst 1, 1) := by decide +kernel
theorem dX5_readText_48 : decode cX5_readText 48 = .ok (.iadd, 1) := by decide +kernel
theorem dX5_readText_49 : decode cX5_readText 49 = .ok (.istore_n 1, 1) := by decide +kernel
theorem dX5_readText_50 : decode cX5_readText 50 = .ok (.iinc 2 1, 3) := by decide +kernel
theorem dX5_readText_53 : decode cX5_readText 53 = .ok (.goto (-49), 3) := by decide +kernel
theorem dX5_readText_56 : decode cX5_readText 56 = .ok (.iload_n 1, 1) := by decide +kernel
theorem dX5_readText_57 : decode cX5_readText 57 = .ok (.ireturn, 1) := by decide +kernel
theorem dX5_readCall_0 : decode cX5_readCall 0 = .ok (.iconst 0, 1) := by decide +kernel
theorem dX5_readCall_1 : decode cX5_readCall 1 = .ok (.istore_n 2, 1) := by decide +kernel
theorem dX5_readCall_2 : decode cX5_readCall 2 = .ok (.iload_n 1, 1) := by decide +kernel
theorem dX5_readCall_3 : decode cX5_readCall 3 = .ok (.istore_n 3, 1) := by decide +kernel
theorem dX5_readCall_4 : decode cX5_readCall 4 = .ok (.aload_n 0, 1) := by decide +kernel
theorem dX5_readCall_5 : decode cX5_readCall 5 = .ok (.iload_n 3, 1) := by decide +kernel
theorem dX5_readCall_6 : decode cX5_readCall 6 = .ok (.invokevirtual 36, 3) := by decide +kernel
theorem dX5_readCall_9 : decode cX5_readCall 9 = .ok (.istore 4, 2) := by decide +kernel
theorem dX5_readCall_11 : decode cX5_readCall 11 = .ok (.aload_n 0, 1) := by decide +kernel
theorem dX5_readCall_12 : decode cX5_readCall 12 = .ok (.iload_n 3, 1) := by decide +kernel
theorem dX5_readCall_13 : decode cX5_readCall 13 = .ok (.iload 4, 2) := by decide +kernel
theorem dX5_readCall_15 : decode cX5_readCall 15 = .ok (.invokevirtual 39, 3) := by decide +kernel
theorem dX5_readCall_18 : decode cX5_readCall 18 = .ok (.istore 5, 2) := by decide +kernel
theorem dX5_readCall_20 : decode cX5_readCall 20 = .ok (.iload 5, 2) := by decide +kernel
theorem dX5_readCall_22 : decode cX5_readCall 22 = .ok (.ifCond .ge 65, 3) := by decide +kernel
theorem dX5_readCall_25 : decode cX5_readCall 25 = .ok (.aload_n 0, 1) := by decide +kernel
theorem dX5_readCall_26 : decode cX5_readCall 26 = .ok (.iload_n 3, 1) := by decide +kernel
theorem dX5_readCall_27 : decode cX5_readCall 27 = .ok (.iload 4, 2) := by decide +kernel
theorem dX5_readCall_29 : decode cX5_readCall 29 = .ok (.invokevirtual 43, 3) := by decide +kernel
theorem dX5_readCall_32 : decode cX5_readCall 32 = .ok (.istore_n 2, 1) := by decide +kernel
theorem dX5_readCall_33 : decode cX5_readCall 33 = .ok (.iload_n 2, 1) := by decide +kernel
theorem dX5_readCall_34 : decode cX5_readCall 34 = .ok (.ifCond .ge 7, 3) := by decide +kernel
theorem dX5_readCall_37 : decode cX5_readCall 37 = .ok (.iconst (-1), 1) := by decide +kernel
theorem dX5_readCall_38 : decode cX5_readCall 38 = .ok (.iload_n 3, 1) := by decide +kernel
theorem dX5_readCall_39 : decode cX5_readCall 39 = .ok (.isub, 1) := by decide +kernel
theorem dX5_readCall_40 : decode cX5_readCall 40 = .ok (.ireturn, 1) := by decide +kernel
theorem dX5_readCall_41 : decode cX5_readCall 41 = .ok (.aload_n 0, 1) := by decide +kernel
theorem dX5_readCall_42 : decode cX5_readCall 42 = .ok (.iload 4, 2) := by decide +kernel
theorem dX5_readCall_44 : decode cX5_readCall 44 = .ok (.invokevirtual 33, 3) := by decide +kernel
theorem dX5_readCall_47 : decode cX5_readCall 47 = .ok (.bipush 32, 2) := by decide +kernel
theorem dX5_readCall_49 : decode cX5_readCall 49 = .ok (.if_icmp .eq 8, 3) := by decide +kernel
theorem dX5_readCall_52 : decode cX5_readCall 52 = .ok (.iconst (-1), 1) := by decide +kernel
theorem dX5_readCall_53 : decode cX5_readCall 53 = .ok (.iload 4, 2) := by decide +kernel
theorem dX5_readCall_55 : decode cX5_readCall 55 = .ok (.isub, 1) := by decide +kernel
theorem dX5_readCall_56 : decode cX5_readCall 56 = .ok (.ireturn, 1) := by decide +kernel
theorem dX5_readCall_57 : decode cX5_readCall 57 = .ok (.iload 4, 2) := by decide +kernel
theorem dX5_readCall_59 : decode cX5_readCall 59 = .ok (.iconst 1, 1) := by decide +kernel
theorem dX5_readCall_60 : decode cX5_readCall 60 = .ok (.iadd, 1) := by decide +kernel
theorem dX5_readCall_61 : decode cX5_readCall 61 = .ok (.istore_n 3, 1) := by decide +kernel
theorem dX5_readCall_62 : decode cX5_readCall 62 = .ok (.aload_n 0, 1) := by decide +kernel
theorem dX5_readCall_63 : decode cX5_readCall 63 = .ok (.iload_n 3, 1) := by decide +kernel
theorem dX5_readCall_64 : decode cX5_readCall 64 = .ok (.invokevirtual 36, 3) := by decide +kernel
theorem dX5_readCall_67 : decode cX5_readCall 67 = .ok (.istore 4, 2) := by decide +kernel
theorem dX5_readCall_69 : decode cX5_readCall 69 = .ok (.aload_n 0, 1) := by decide +kernel
theorem dX5_readCall_70 : decode cX5_readCall 70 = .ok (.iload_n 3, 1) := by decide +kernel
theorem dX5_readCall_71 : decode cX5_readCall 71 = .ok (.iload 4, 2) := by decide +kernel
theorem dX5_readCall_73 : decode cX5_readCall 73 = .ok (.invokevirtual 39, 3) := by decide +kernel
theorem dX5_readCall_76 : decode cX5_readCall 76 = .ok (.istore 5, 2) := by decide +kernel
theorem dX5_readCall_78 : decode cX5_readCall 78 = .ok (.iload 5, 2) := by decide +kernel
theorem dX5_readCall_80 : decode cX5_readCall 80 = .ok (.ifCond .ge 7, 3) := by decide +kernel
theorem dX5_readCall_83 : decode cX5_readCall 83 = .ok (.iconst (-1), 1) := by decide +kernel
theorem dX5_readCall_84 : decode cX5_readCall 84 = .ok (.iload_n 3, 1) := by decide +kernel
theorem dX5_readCall_85 : decode cX5_readCall 85 = .ok (.isub, 1) := by decide +kernel
theorem dX5_readCall_86 : decode cX5_readCall 86 = .ok (.ireturn, 1) := by decide +kernel
theorem dX5_readCall_87 : decode cX5_readCall 87 = .ok (.iconst 1, 1) := by decide +kernel
theorem dX5_readCall_88 : decode cX5_readCall 88 = .ok (.istore 6, 2) := by decide +kernel
theorem dX5_readCall_90 : decode cX5_readCall 90 = .ok (.aload_n 0, 1) := by decide +kernel
theorem dX5_readCall_91 : decode cX5_readCall 91 = .ok (.iload 4, 2) := by decide +kernel
theorem dX5_readCall_93 : decode cX5_readCall 93 = .ok (.invokevirtual 33, 3) := by decide +kernel
theorem dX5_readCall_96 : decode cX5_readCall 96 = .ok (.bipush 32, 2) := by decide +kernel
theorem dX5_readCall_98 : decode cX5_readCall 98 = .ok (.if_icmp .ne 38, 3) := by decide +kernel
theorem dX5_readCall_101 : decode cX5_readCall 101 = .ok (.aload_n 0, 1) := by decide +kernel
theorem dX5_readCall_102 : decode cX5_readCall 102 = .ok (.iload 4, 2) := by decide +kernel
theorem dX5_readCall_104 : decode cX5_readCall 104 = .ok (.iconst 1, 1) := by decide +kernel
theorem dX5_readCall_105 : decode cX5_readCall 105 = .ok (.iadd, 1) := by decide +kernel
theorem dX5_readCall_106 : decode cX5_readCall 106 = .ok (.invokevirtual 33, 3) := by decide +kernel
theorem dX5_readCall_109 : decode cX5_readCall 109 = .ok (.bipush 48, 2) := by decide +kernel
theorem dX5_readCall_111 : decode cX5_readCall 111 = .ok (.isub, 1) := by decide +kernel
theorem dX5_readCall_112 : decode cX5_readCall 112 = .ok (.istore 6, 2) := by decide +kernel
theorem dX5_readCall_114 : decode cX5_readCall 114 = .ok (.iload 6, 2) := by decide +kernel
theorem dX5_readCall_116 : decode cX5_readCall 116 = .ok (.iconst 2, 1) := by decide +kernel
theorem dX5_readCall_117 : decode cX5_readCall 117 = .ok (.if_icmp .lt 9, 3) := by decide +kernel
theorem dX5_readCall_120 : decode cX5_readCall 120 = .ok (.iload 6, 2) := by decide +kernel
theorem dX5_readCall_122 : decode cX5_readCall 122 = .ok (.iconst 4, 1) := by decide +kernel
theorem dX5_readCall_123 : decode cX5_readCall 123 = .ok (.if_icmp .le 10, 3) := by decide +kernel
theorem dX5_readCall_126 : decode cX5_readCall 126 = .ok (.iconst (-1), 1) := by decide +kernel
theorem dX5_readCall_127 : decode cX5_readCall 127 = .ok (.iload 4, 2) := by decide +kernel
theorem dX5_readCall_129 : decode cX5_readCall 129 = .ok (.iconst 1, 1) := by decide +kernel
theorem dX5_readCall_130 : decode cX5_readCall 130 = .ok (.iadd, 1) := by decide +kernel
theorem dX5_readCall_131 : decode cX5_readCall 131 = .ok (.isub, 1) := by decide +kernel
theorem dX5_readCall_132 : decode cX5_readCall 132 = .ok (.ireturn, 1) := by decide +kernel
theorem dX5_readCall_133 : decode cX5_readCall 133 = .ok (.iinc 4 2, 3) := by decide +kernel
theorem dX5_readCall_136 : decode cX5_readCall 136 = .ok (.aload_n 0, 1) := by decide +kernel
theorem dX5_readCall_137 : decode cX5_readCall 137 = .ok (.bipush 100, 2) := by decide +kernel
theorem dX5_readCall_139 : decode cX5_readCall 139 = .ok (.iload_n 2, 1) := by decide +kernel
theorem dX5_readCall_140 : decode cX5_readCall 140 = .ok (.imul, 1) := by decide +kernel
theorem dX5_readCall_141 : decode cX5_readCall 141 = .ok (.iload 5, 2) := by decide +kernel
theorem dX5_readCall_143 : decode cX5_readCall 143 = .ok (.iadd, 1) := by decide +kernel
theorem dX5_readCall_144 : decode cX5_readCall 144 = .ok (.iload 6, 2) := by decide +kernel
theorem dX5_readCall_146 : decode cX5_readCall 146 = .ok (.invokevirtual 46, 3) := by decide +kernel
theorem dX5_readCall_149 : decode cX5_readCall 149 = .ok (.iload 4, 2) := by decide +kernel
theorem dX5_readCall_151 : decode cX5_readCall 151 = .ok (.ireturn, 1) := by decide +kernel
theorem dX5_addCalls_0 : decode cX5_addCalls 0 = .ok (.iconst 0, 1) := by decide +kernel
theorem dX5_addCalls_1 : decode cX5_addCalls 1 = .ok (.istore_n 3, 1) := by decide +kernel
theorem dX5_addCalls_2 : decode cX5_addCalls 2 = .ok (.iload_n 3, 1) := by decide +kernel
theorem dX5_addCalls_3 : decode cX5_addCalls 3 = .ok (.iload_n 2, 1) := by decide +kernel
theorem dX5_addCalls_4 : decode cX5_addCalls 4 = .ok (.if_icmp .ge 38, 3) := by decide +kernel
theorem dX5_addCalls_7 : decode cX5_addCalls 7 = .ok (.aload_n 0, 1) := by decide +kernel
theorem dX5_addCalls_8 : decode cX5_addCalls 8 = .ok (.getfield 22, 3) := by decide +kernel
theorem dX5_addCalls_11 : decode cX5_addCalls 11 = .ok (.bipush 120, 2) := by decide +kernel
theorem dX5_addCalls_13 : decode cX5_addCalls 13 = .ok (.if_icmp .ge 29, 3) := by decide +kernel
theorem dX5_addCalls_16 : decode cX5_addCalls 16 = .ok (.aload_n 0, 1) := by decide +kernel
theorem dX5_addCalls_17 : decode cX5_addCalls 17 = .ok (.getfield 19, 3) := by decide +kernel
theorem dX5_addCalls_20 : decode cX5_addCalls 20 = .ok (.aload_n 0, 1) := by decide +kernel
theorem dX5_addCalls_21 : decode cX5_addCalls 21 = .ok (.getfield 22, 3) := by decide +kernel
theorem dX5_addCalls_24 : decode cX5_addCalls 24 = .ok (.iload_n 1, 1) := by decide +kernel
theorem dX5_addCalls_25 : decode cX5_addCalls 25 = .ok (.iastore, 1) := by decide +kernel
theorem dX5_addCalls_26 : decode cX5_addCalls 26 = .ok (.aload_n 0, 1) := by decide +kernel
theorem dX5_addCalls_27 : decode cX5_addCalls 27 = .ok (.dup, 1) := by decide +kernel
theorem dX5_addCalls_28 : decode cX5_addCalls 28 = .ok (.getfield 22, 3) := by decide +kernel
theorem dX5_addCalls_31 : decode cX5_addCalls 31 = .ok (.iconst 1, 1) := by decide +kernel
theorem dX5_addCalls_32 : decode cX5_addCalls 32 = .ok (.iadd, 1) := by decide +kernel
theorem dX5_addCalls_33 : decode cX5_addCalls 33 = .ok (.putfield 22, 3) := by decide +kernel
theorem dX5_addCalls_36 : decode cX5_addCalls 36 = .ok (.iinc 3 1, 3) := by decide +kernel
theorem dX5_addCalls_39 : decode cX5_addCalls 39 = .ok (.goto (-37), 3) := by decide +kernel
theorem dX5_addCalls_42 : decode cX5_addCalls 42 = .ok (.return_, 1) := by decide +kernel
theorem dX5_byteAt_0 : decode cX5_byteAt 0 = .ok (.iload_n 1, 1) := by decide +kernel
theorem dX5_byteAt_1 : decode cX5_byteAt 1 = .ok (.ifCond .lt 20, 3) := by decide +kernel
theorem dX5_byteAt_4 : decode cX5_byteAt 4 = .ok (.iload_n 1, 1) := by decide +kernel
theorem dX5_byteAt_5 : decode cX5_byteAt 5 = .ok (.aload_n 0, 1) := by decide +kernel
theorem dX5_byteAt_6 : decode cX5_byteAt 6 = .ok (.getfield 15, 3) := by decide +kernel
theorem dX5_byteAt_9 : decode cX5_byteAt 9 = .ok (.if_icmp .ge 12, 3) := by decide +kernel
theorem dX5_byteAt_12 : decode cX5_byteAt 12 = .ok (.aload_n 0, 1) := by decide +kernel
theorem dX5_byteAt_13 : decode cX5_byteAt 13 = .ok (.getfield 11, 3) := by decide +kernel
theorem dX5_byteAt_16 : decode cX5_byteAt 16 = .ok (.iload_n 1, 1) := by decide +kernel
theorem dX5_byteAt_17 : decode cX5_byteAt 17 = .ok (.iaload, 1) := by decide +kernel
theorem dX5_byteAt_18 : decode cX5_byteAt 18 = .ok (.goto 4, 3) := by decide +kernel
theorem dX5_byteAt_21 : decode cX5_byteAt 21 = .ok (.iconst 0, 1) := by decide +kernel
theorem dX5_byteAt_22 : decode cX5_byteAt 22 = .ok (.ireturn, 1) := by decide +kernel
theorem dX5_wordEnd_0 : decode cX5_wordEnd 0 = .ok (.iload_n 1, 1) := by decide +kernel
theorem dX5_wordEnd_1 : decode cX5_wordEnd 1 = .ok (.istore_n 2, 1) := by decide +kernel
theorem dX5_wordEnd_2 : decode cX5_wordEnd 2 = .ok (.iload_n 2, 1) := by decide +kernel
theorem dX5_wordEnd_3 : decode cX5_wordEnd 3 = .ok (.aload_n 0, 1) := by decide +kernel
theorem dX5_wordEnd_4 : decode cX5_wordEnd 4 = .ok (.getfield 15, 3) := by decide +kernel
theorem dX5_wordEnd_7 : decode cX5_wordEnd 7 = .ok (.if_icmp .ge 29, 3) := by decide +kernel
theorem dX5_wordEnd_10 : decode cX5_wordEnd 10 = .ok (.aload_n 0, 1) := by decide +kernel
theorem dX5_wordEnd_11 : decode cX5_wordEnd 11 = .ok (.iload_n 2, 1) := by decide +kernel
theorem dX5_wordEnd_12 : decode cX5_wordEnd 12 = .ok (.invokevirtual 33, 3) := by decide +kernel
theorem dX5_wordEnd_15 : decode cX5_wordEnd 15 = .ok (.bipush 97, 2) := by decide +kernel
theorem dX5_wordEnd_17 : decode cX5_wordEnd 17 = .ok (.if_icmp .lt 19, 3) := by decide +kernel
theorem dX5_wordEnd_20 : decode cX5_wordEnd 20 = .ok (.aload_n 0, 1) := by decide +kernel
theorem dX5_wordEnd_21 : decode cX5_wordEnd 21 = .ok (.iload_n 2, 1) := by decide +kernel
theorem dX5_wordEnd_22 : decode cX5_wordEnd 22 = .ok (.invokevirtual 33, 3) := by decide +kernel
theorem dX5_wordEnd_25 : decode cX5_wordEnd 25 = .ok (.bipush 122, 2) := by decide +kernel
theorem dX5_wordEnd_27 : decode cX5_wordEnd 27 = .ok (.if_icmp .gt 9, 3) := by decide +kernel
theorem dX5_wordEnd_30 : decode cX5_wordEnd 30 = .ok (.iinc 2 1, 3) := by decide +kernel
theorem dX5_wordEnd_33 : decode cX5_wordEnd 33 = .ok (.goto (-31), 3) := by decide +kernel
theorem dX5_wordEnd_36 : decode cX5_wordEnd 36 = .ok (.iload_n 2, 1) := by decide +kernel
theorem dX5_wordEnd_37 : decode cX5_wordEnd 37 = .ok (.ireturn, 1) := by decide +kernel
theorem dX5_whoIn_0 : decode cX5_whoIn 0 = .ok (.iconst 0, 1) := by decide +kernel
theorem dX5_whoIn_1 : decode cX5_whoIn 1 = .ok (.istore_n 3, 1) := by decide +kernel
theorem dX5_whoIn_2 : decode cX5_whoIn 2 = .ok (.iload_n 3, 1) := by decide +kernel
theorem dX5_whoIn_3 : decode cX5_whoIn 3 = .ok (.bipush 9, 2) := by decide +kernel
theorem dX5_whoIn_5 : decode cX5_whoIn 5 = .ok (.if_icmp .ge 24, 3) := by decide +kernel
theorem dX5_whoIn_8 : decode cX5_whoIn 8 = .ok (.aload_n 0, 1) := by decide +kernel
theorem dX5_whoIn_9 : decode cX5_whoIn 9 = .ok (.iload_n 3, 1) := by decide +kernel
theorem dX5_whoIn_10 : decode cX5_whoIn 10 = .ok (.invokestatic 50, 3) := by decide +kernel
theorem dX5_whoIn_13 : decode cX5_whoIn 13 = .ok (.iload_n 1, 1) := by decide +kernel
theorem dX5_whoIn_14 : decode cX5_whoIn 14 = .ok (.iload_n 2, 1) := by decide +kernel
theorem dX5_whoIn_15 : decode cX5_whoIn 15 = .ok (.invokevirtual 56, 3) := by decide +kernel
theorem dX5_whoIn_18 : decode cX5_whoIn 18 = .ok (.ifCond .eq 5, 3) := by decide +kernel
theorem dX5_whoIn_21 : decode cX5_whoIn 21 = .ok (.iload_n 3, 1) := by decide +kernel
theorem dX5_whoIn_22 : decode cX5_whoIn 22 = .ok (.ireturn, 1) := by decide +kernel
theorem dX5_whoIn_23 : decode cX5_whoIn 23 = .ok (.iinc 3 1, 3) := by decide +kernel
theorem dX5_whoIn_26 : decode cX5_whoIn 26 = .ok (.goto (-24), 3) := by decide +kernel
theorem dX5_whoIn_29 : decode cX5_whoIn 29 = .ok (.iconst (-1), 1) := by decide +kernel
theorem dX5_whoIn_30 : decode cX5_whoIn 30 = .ok (.ireturn, 1) := by decide +kernel
theorem dX5_figureIn_0 : decode cX5_figureIn 0 = .ok (.iconst 0, 1) := by decide +kernel
theorem dX5_figureIn_1 : decode cX5_figureIn 1 = .ok (.istore_n 3, 1) := by decide +kernel
theorem dX5_figureIn_2 : decode cX5_figureIn 2 = .ok (.iload_n 3, 1) := by decide +kernel
theorem dX5_figureIn_3 : decode cX5_figureIn 3 = .ok (.bipush 12, 2) := by decide +kernel
theorem dX5_figureIn_5 : decode cX5_figureIn 5 = .ok (.if_icmp .ge 24, 3) := by decide +kernel
theorem dX5_figureIn_8 : decode cX5_figureIn 8 = .ok (.aload_n 0, 1) := by decide +kernel
theorem dX5_figureIn_9 : decode cX5_figureIn 9 = .ok (.iload_n 3, 1) := by decide +kernel
theorem dX5_figureIn_10 : decode cX5_figureIn 10 = .ok (.invokestatic 60, 3) := by decide +kernel
theorem dX5_figureIn_13 : decode cX5_figureIn 13 = .ok (.iload_n 1, 1) := by decide +kernel
theorem dX5_figureIn_14 : decode cX5_figureIn 14 = .ok (.iload_n 2, 1) := by decide +kernel
theorem dX5_figureIn_15 : decode cX5_figureIn 15 = .ok (.invokevirtual 56, 3) := by decide +kernel
theorem dX5_figureIn_18 : decode cX5_figureIn 18 = .ok (.ifCond .eq 5, 3) := by decide +kernel
theorem dX5_figureIn_21 : decode cX5_figureIn 21 = .ok (.iload_n 3, 1) := by decide +kernel
theorem dX5_figureIn_22 : decode cX5_figureIn 22 = .ok (.ireturn, 1) := by decide +kernel
theorem dX5_figureIn_23 : decode cX5_figureIn 23 = .ok (.iinc 3 1, 3) := by decide +kernel
theorem dX5_figureIn_26 : decode cX5_figureIn 26 = .ok (.goto (-24), 3) := by decide +kernel
theorem dX5_figureIn_29 : decode cX5_figureIn 29 = .ok (.iconst (-1), 1) := by decide +kernel
theorem dX5_figureIn_30 : decode cX5_figureIn 30 = .ok (.ireturn, 1) := by decide +kernel
theorem dX5_isWord_0 : decode cX5_isWord 0 = .ok (.iload_n 3, 1) := by decide +kernel
theorem dX5_isWord_1 : decode cX5_isWord 1 = .ok (.iload_n 2, 1) := by decide +kernel
theorem dX5_isWord_2 : decode cX5_isWord 2 = .ok (.isub, 1) := by decide +kernel
theorem dX5_isWord_3 : decode cX5_isWord 3 = .ok (.aload_n 1, 1) := by decide +kernel
theorem dX5_isWord_4 : decode cX5_isWord 4 = .ok (.invokevirtual 63, 3) := by decide +kernel
theorem dX5_isWord_7 : decode cX5_isWord 7 = .ok (.if_icmp .eq 5, 3) := by decide +kernel
theorem dX5_isWord_10 : decode cX5_isWord 10 = .ok (.iconst 0, 1) := by decide +kernel
theorem dX5_isWord_11 : decode cX5_isWord 11 = .ok (.ireturn, 1) := by decide +kernel
theorem dX5_isWord_12 : decode cX5_isWord 12 = .ok (.iconst 0, 1) := by decide +kernel
theorem dX5_isWord_13 : decode cX5_isWord 13 = .ok (.istore 4, 2) := by decide +kernel
theorem dX5_isWord_15 : decode cX5_isWord 15 = .ok (.iload 4, 2) := by decide +kernel
theorem dX5_isWord_17 : decode cX5_isWord 17 = .ok (.aload_n 1, 1) := by decide +kernel
theorem dX5_isWord_18 : decode cX5_isWord 18 = .ok (.invokevirtual 63, 3) := by decide +kernel
theorem dX5_isWord_21 : decode cX5_isWord 21 = .ok (.if_icmp .ge 28, 3) := by decide +kernel
theorem dX5_isWord_24 : decode cX5_isWord 24 = .ok (.aload_n 0, 1) := by decide +kernel
theorem dX5_isWord_25 : decode cX5_isWord 25 = .ok (.iload_n 2, 1) := by decide +kernel
theorem dX5_isWord_26 : decode cX5_isWord 26 = .ok (.iload 4, 2) := by decide +kernel
theorem dX5_isWord_28 : decode cX5_isWord 28 = .ok (.iadd, 1) := by decide +kernel
theorem dX5_isWord_29 : decode cX5_isWord 29 = .ok (.invokevirtual 33, 3) := by decide +kernel
theorem dX5_isWord_32 : decode cX5_isWord 32 = .ok (.aload_n 1, 1) := by decide +kernel
theorem dX5_isWord_33 : decode cX5_isWord 33 = .ok (.iload 4, 2) := by decide +kernel
theorem dX5_isWord_35 : decode cX5_isWord 35 = .ok (.invokevirtual 67, 3) := by decide +kernel
theorem dX5_isWord_38 : decode cX5_isWord 38 = .ok (.if_icmp .eq 5, 3) := by decide +kernel
theorem dX5_isWord_41 : decode cX5_isWord 41 = .ok (.iconst 0, 1) := by decide +kernel
theorem dX5_isWord_42 : decode cX5_isWord 42 = .ok (.ireturn, 1) := by decide +kernel
theorem dX5_isWord_43 : decode cX5_isWord 43 = .ok (.iinc 4 1, 3) := by decide +kernel
theorem dX5_isWord_46 : decode cX5_isWord 46 = .ok (.goto (-31), 3) := by decide +kernel
theorem dX5_isWord_49 : decode cX5_isWord 49 = .ok (.iconst 1, 1) := by decide +kernel
theorem dX5_isWord_50 : decode cX5_isWord 50 = .ok (.ireturn, 1) := by decide +kernel
theorem dX6_init_0 : decode cX6_init 0 = .ok (.aload_n 0, 1) := by decide +kernel
theorem dX6_init_1 : decode cX6_init 1 = .ok (.invokespecial 3, 3) := by decide +kernel
theorem dX6_init_4 : decode cX6_init 4 = .ok (.aload_n 0, 1) := by decide +kernel
theorem dX6_init_5 : decode cX6_init 5 = .ok (.invokestatic 9, 3) := by decide +kernel
theorem dX6_init_8 : decode cX6_init 8 = .ok (.putfield 15, 3) := by decide +kernel
theorem dX6_init_11 : decode cX6_init 11 = .ok (.aload_n 0, 1) := by decide +kernel
theorem dX6_init_12 : decode cX6_init 12 = .ok (.sipush 250, 3) := by decide +kernel
theorem dX6_init_15 : decode cX6_init 15 = .ok (.newarray .long, 2) := by decide +kernel
theorem dX6_init_17 : decode cX6_init 17 = .ok (.putfield 21, 3) := by decide +kernel
theorem dX6_init_20 : decode cX6_init 20 = .ok (.aload_n 0, 1) := by decide +kernel
theorem dX6_init_21 : decode cX6_init 21 = .ok (.sipush 250, 3) := by decide +kernel
theorem dX6_init_24 : decode cX6_init 24 = .ok (.newarray .int, 2) := by decide +kernel
theorem dX6_init_26 : decode cX6_init 26 = .ok (.putfield 25, 3) := by decide +kernel
theorem dX6_init_29 : decode cX6_init 29 = .ok (.aload_n 0, 1) := by decide +kernel
theorem dX6_init_30 : decode cX6_init 30 = .ok (.sipush 250, 3) := by decide +kernel
theorem dX6_init_33 : decode cX6_init 33 = .ok (.newarray .int, 2) := by decide +kernel
theorem dX6_init_35 : decode cX6_init 35 = .ok (.putfield 29, 3) := by decide +kernel
theorem dX6_init_38 : decode cX6_init 38 = .ok (.aload_n 0, 1) := by decide +kernel
theorem dX6_init_39 : decode cX6_init 39 = .ok (.iconst 0, 1) := by decide +kernel
theorem dX6_init_40 : decode cX6_init 40 = .ok (.putfield 32, 3) := by decide +kernel
theorem dX6_init_43 : decode cX6_init 43 = .ok (.aload_n 0, 1) := by decide +kernel
theorem dX6_init_44 : decode cX6_init 44 = .ok (.sipush 250, 3) := by decide +kernel
theorem dX6_init_47 : decode cX6_init 47 = .ok (.newarray .int, 2) := by decide +kernel
theorem dX6_init_49 : decode cX6_init 49 = .ok (.putfield 36, 3) := by decide +kernel
theorem dX6_init_52 : decode cX6_init 52 = .ok (.aload_n 0, 1) := by decide +kernel
theorem dX6_init_53 : decode cX6_init 53 = .ok (.aload_n 0, 1) := by decide +kernel
theorem dX6_init_54 : decode cX6_init 54 = .ok (.getfield 15, 3) := by decide +kernel
theorem dX6_init_57 : decode cX6_init 57 = .ok (.putfield 39, 3) := by decide +kernel
theorem dX6_init_60 : decode cX6_init 60 = .ok (.aload_n 0, 1) := by decide +kernel
theorem dX6_init_61 : decode cX6_init 61 = .ok (.iconst 0, 1) := by decide +kernel
theorem dX6_init_62 : decode cX6_init 62 = .ok (.putfield 42, 3) := by decide +kernel
theorem dX6_init_65 : decode cX6_init 65 = .ok (.aload_n 0, 1) := by decide +kernel
theorem dX6_init_66 : decode cX6_init 66 = .ok (.aload_n 1, 1) := by decide +kernel
theorem dX6_init_67 : decode cX6_init 67 = .ok (.putfield 45, 3) := by decide +kernel
theorem dX6_init_70 : decode cX6_init 70 = .ok (.return_, 1) := by decide +kernel
theorem dX6_codeAt_0 : decode cX6_codeAt 0 = .ok (.iload_n 1, 1) := by decide +kernel
theorem dX6_codeAt_1 : decode cX6_codeAt 1 = .ok (.ifCond .lt 27, 3) := by decide +kernel
theorem dX6_codeAt_4 : decode cX6_codeAt 4 = .ok (.iload_n 1, 1) := by decide +kernel
theorem dX6_codeAt_5 : decode cX6_codeAt 5 = .ok (.sipush 250, 3) := by decide +kernel
theorem dX6_codeAt_8 : decode cX6_codeAt 8 = .ok (.if_icmp .ge 20, 3) := by decide +kernel
theorem dX6_codeAt_11 : decode cX6_codeAt 11 = .ok (.iload_n 1, 1) := by decide +kernel
theorem dX6_codeAt_12 : decode cX6_codeAt 12 = .ok (.aload_n 0, 1) := by decide +kernel
theorem dX6_codeAt_13 : decode cX6_codeAt 13 = .ok (.getfield 42, 3) := by decide +kernel
theorem dX6_codeAt_16 : decode cX6_codeAt 16 = .ok (.if_icmp .ge 12, 3) := by decide +kernel
theorem dX6_codeAt_19 : decode cX6_codeAt 19 = .ok (.aload_n 0, 1) := by decide +kernel
theorem dX6_codeAt_20 : decode cX6_codeAt 20 = .ok (.getfield 36, 3) := by decide +kernel
theorem dX6_codeAt_23 : decode cX6_codeAt 23 = .ok (.iload_n 1, 1) := by decide +kernel
theorem dX6_codeAt_24 : decode cX6_codeAt 24 = .ok (.iaload, 1) := by decide +kernel
theorem dX6_codeAt_25 : decode cX6_codeAt 25 = .ok (.goto 4, 3) := by decide +kernel
theorem dX6_codeAt_28 : decode cX6_codeAt 28 = .ok (.iconst 0, 1) := by decide +kernel
theorem dX6_codeAt_29 : decode cX6_codeAt 29 = .ok (.ireturn, 1) := by decide +kernel
theorem dX6_search_0 : decode cX6_search 0 = .ok (.aload_n 0, 1) := by decide +kernel
theorem dX6_search_1 : decode cX6_search 1 = .ok (.lload_n 1, 1) := by decide +kernel
theorem dX6_search_2 : decode cX6_search 2 = .ok (.putfield 39, 3) := by decide +kernel
theorem dX6_search_5 : decode cX6_search 5 = .ok (.aload_n 0, 1) := by decide +kernel
theorem dX6_search_6 : decode cX6_search 6 = .ok (.lload_n 1, 1) := by decide +kernel
theorem dX6_search_7 : decode cX6_search 7 = .ok (.aload_n 0, 1) := by decide +kernel
theorem dX6_search_8 : decode cX6_search 8 = .ok (.getfield 15, 3) := by decide +kernel
theorem dX6_search_11 : decode cX6_search 11 = .ok (.lcmp, 1) := by decide +kernel
theorem dX6_search_12 : decode cX6_search 12 = .ok (.ifCond .ne 7, 3) := by decide +kernel
theorem dX6_search_15 : decode cX6_search 15 = .ok (.iconst 0, 1) := by decide +kernel
theorem dX6_search_16 : decode cX6_search 16 = .ok (.goto 5, 3) := by decide +kernel
theorem dX6_search_19 : decode cX6_search 19 = .ok (.bipush (-2), 2) := by decide +kernel
theorem dX6_search_21 : decode cX6_search 21 = .ok (.putfield 42, 3) := by decide +kernel
theorem dX6_search_24 : decode cX6_search 24 = .ok (.aload_n 0, 1) := by decide +kernel
theorem dX6_search_25 : decode cX6_search 25 = .ok (.iconst 0, 1) := by decide +kernel
theorem dX6_search_26 : decode cX6_search 26 = .ok (.putfield 32, 3) := by decide +kernel
theorem dX6_search_29 : decode cX6_search 29 = .ok (.aload_n 0, 1) := by decide +kernel
theorem dX6_search_30 : decode cX6_search 30 = .ok (.lload_n 1, 1) := by decide +kernel
theorem dX6_search_31 : decode cX6_search 31 = .ok (.iconst 0, 1) := by decide +kernel
theorem dX6_search_32 : decode cX6_search 32 = .ok (.iconst 0, 1) := by decide +kernel
theorem dX6_search_33 : decode cX6_search 33 = .ok (.invokevirtual 49, 3) := by decide +kernel
theorem dX6_search_36 : decode cX6_search 36 = .ok (.pop, 1) := by decide +kernel
theorem dX6_search_37 : decode cX6_search 37 = .ok (.iconst 0, 1) := by decide +kernel
theorem dX6_search_38 : decode cX6_search 38 = .ok (.istore_n 3, 1) := by decide +kernel
theorem dX6_search_39 : decode cX6_search 39 = .ok (.aload_n 0, 1) := by decide +kernel
theorem dX6_search_40 : decode cX6_search 40 = .ok (.getfield 42, 3) := by decide +kernel
theorem dX6_search_43 : decode cX6_search 43 = .ok (.bipush (-2), 2) := by decide +kernel
theorem dX6_search_45 : decode cX6_search 45 = .ok (.if_icmp .ne 104, 3) := by decide +kernel
theorem dX6_search_48 : decode cX6_search 48 = .ok (.iload_n 3, 1) := by decide +kernel
theorem dX6_search_49 : decode cX6_search 49 = .ok (.aload_n 0, 1) := by decide +kernel
theorem dX6_search_50 : decode cX6_search 50 = .ok (.getfield 32, 3) := by decide +kernel
theorem dX6_search_53 : decode cX6_search 53 = .ok (.if_icmp .ge 96, 3) := by decide +kernel
theorem dX6_search_56 : decode cX6_search 56 = .ok (.iload_n 3, 1) := by decide +kernel
theorem dX6_search_57 : decode cX6_search 57 = .ok (.sipush 250, 3) := by decide +kernel
theorem dX6_search_60 : decode cX6_search 60 = .ok (.if_icmp .ge 89, 3) := by decide +kernel
theorem dX6_search_63 : decode cX6_search 63 = .ok (.aload_n 0, 1) := by decide +kernel
theorem dX6_search_64 : decode cX6_search 64 = .ok (.getfield 45, 3) := by decide +kernel
theorem dX6_search_67 : decode cX6_search 67 = .ok (.aload_n 0, 1) := by decide +kernel
theorem dX6_search_68 : decode cX6_search 68 = .ok (.getfield 21, 3) := by decide +kernel
theorem dX6_search_71 : decode cX6_search 71 = .ok (.iload_n 3, 1) := by decide +kernel
theorem dX6_search_72 : decode cX6_search 72 = .ok (.laload, 1) := by decide +kernel
theorem dX6_search_73 : decode cX6_search 73 = .ok (.invokevirtual 53, 3) := by decide +kernel
theorem dX6_search_76 : decode cX6_search 76 = .ok (.iconst 0, 1) := by decide +kernel
theorem dX6_search_77 : decode cX6_search 77 = .ok (.istore 4, 2) := by decide +kernel
theorem dX6_search_79 : decode cX6_search 79 = .ok (.aload_n 0, 1) := by decide +kernel
theorem dX6_search_80 : decode cX6_search 80 = .ok (.getfield 42, 3) := by decide +kernel
theorem dX6_search_83 : decode cX6_search 83 = .ok (.bipush (-2), 2) := by decide +kernel
theorem dX6_search_85 : decode cX6_search 85 = .ok (.if_icmp .ne 58, 3) := by decide +kernel
theorem dX6_search_88 : decode cX6_search 88 = .ok (.iload 4, 2) := by decide +kernel
theorem dX6_search_90 : decode cX6_search 90 = .ok (.bipush 108, 2) := by decide +kernel
theorem dX6_search_92 : decode cX6_search 92 = .ok (.if_icmp .ge 51, 3) := by decide +kernel
theorem dX6_search_95 : decode cX6_search 95 = .ok (.bipush 100, 2) := by decide +kernel
theorem dX6_search_97 : decode cX6_search 97 = .ok (.iload 4, 2) := by decide +kernel
theorem dX6_search_99 : decode cX6_search 99 = .ok (.bipush 12, 2) := by decide +kernel
theorem dX6_search_101 : decode cX6_search 101 = .ok (.idiv, 1) := by decide +kernel
theorem dX6_search_102 : decode cX6_search 102 = .ok (.imul, 1) := by decide +kernel
theorem dX6_search_103 : decode cX6_search 103 = .ok (.iload 4, 2) := by decide +kernel
theorem dX6_search_105 : decode cX6_search 105 = .ok (.bipush 12, 2) := by decide +kernel
theorem dX6_search_107 : decode cX6_search 107 = .ok (.irem, 1) := by decide +kernel
theorem dX6_search_108 : decode cX6_search 108 = .ok (.iadd, 1) := by decide +kernel
theorem dX6_search_109 : decode cX6_search 109 = .ok (.istore 5, 2) := by decide +kernel
theorem dX6_search_111 : decode cX6_search 111 = .ok (.aload_n 0, 1) := by decide +kernel
theorem dX6_search_112 : decode cX6_search 112 = .ok (.getfield 45, 3) := by decide +kernel
theorem dX6_search_115 : decode cX6_search 115 = .ok (.iload 5, 2) := by decide +kernel
theorem dX6_search_117 : decode cX6_search 117 = .ok (.invokevirtual 59, 3) := by decide +kernel
theorem dX6_search_120 : decode cX6_search 120 = .ok (.ifCond .eq 17, 3) := by decide +kernel
theorem dX6_search_123 : decode cX6_search 123 = .ok (.aload_n 0, 1) := by decide +kernel
theorem dX6_search_124 : decode cX6_search 124 = .ok (.aload_n 0, 1) := by decide +kernel
theorem dX6_search_125 : decode cX6_search 125 = .ok (.getfield 45, 3) := by decide +kernel
theorem dX6_search_128 : decode cX6_search 128 = .ok (.invokevirtual 63, 3) := by decide +kernel
theorem dX6_search_131 : decode cX6_search 131 = .ok (.iload_n 3, 1) := by decide +kernel
theorem dX6_search_132 : decode cX6_search 132 = .ok (.iload 5, 2) := by decide +kernel
theorem dX6_search_134 : decode cX6_search 134 = .ok (.invokevirtual 66, 3) := by decide +kernel
theorem dX6_search_137 : decode cX6_search 137 = .ok (.iinc 4 1, 3) := by decide +kernel
theorem dX6_search_140 : decode cX6_search 140 = .ok (.goto (-61), 3) := by decide +kernel
theorem dX6_search_143 : decode cX6_search 143 = .ok (.iinc 3 1, 3) := by decide +kernel
theorem dX6_search_146 : decode cX6_search 146 = .ok (.goto (-107), 3) := by decide +kernel
theorem dX6_search_149 : decode cX6_search 149 = .ok (.return_, 1) := by decide +kernel
theorem dX6_comeTo_0 : decode cX6_comeTo 0 = .ok (.lload_n 1, 1) := by decide +kernel
theorem dX6_comeTo_1 : decode cX6_comeTo 1 = .ok (.aload_n 0, 1) := by decide +kernel
theorem dX6_comeTo_2 : decode cX6_comeTo 2 = .ok (.getfield 15, 3) := by decide +kernel
theorem dX6_comeTo_5 : decode cX6_comeTo 5 = .ok (.lcmp, 1) := by decide +kernel
theorem dX6_comeTo_6 : decode cX6_comeTo 6 = .ok (.ifCond .ne 17, 3) := by decide +kernel
theorem dX6_comeTo_9 : decode cX6_comeTo 9 = .ok (.aload_n 0, 1) := by decide +kernel
theorem dX6_comeTo_10 : decode cX6_comeTo 10 = .ok (.aload_n 0, 1) := by decide +kernel
theorem dX6_comeTo_11 : decode cX6_comeTo 11 = .ok (.iload_n 3, 1) := by decide +kernel
theorem dX6_comeTo_12 : decode cX6_comeTo 12 = .ok (.iload 4, 2) := by decide +kernel
theorem dX6_comeTo_14 : decode cX6_comeTo 14 = .ok (.invokevirtual 70, 3) := by decide +kernel
theorem dX6_comeTo_17 : decode cX6_comeTo 17 = .ok (.putfield 42, 3) := by decide +kernel
theorem dX6_comeTo_20 : decode cX6_comeTo 20 = .ok (.goto 35, 3) := by decide +kernel
theorem dX6_comeTo_23 : decode cX6_comeTo 23 = .ok (.lload_n 1, 1) := by decide +kernel
theorem dX6_comeTo_24 : decode cX6_comeTo 24 = .ok (.aload_n 0, 1) := by decide +kernel
theorem dX6_comeTo_25 : decode cX6_comeTo 25 = .ok (.getfield 21, 3) := by decide +kernel
theorem dX6_comeTo_28 : decode cX6_comeTo 28 = .ok (.aload_n 0, 1) := by decide +kernel
theorem dX6_comeTo_29 : decode cX6_comeTo 29 = .ok (.getfield 32, 3) := by decide +kernel
theorem dX6_comeTo_32 : decode cX6_comeTo 32 = .ok (.invokestatic 74, 3) := by decide +kernel
theorem dX6_comeTo_35 : decode cX6_comeTo 35 = .ok (.ifCond .ne 20, 3) := by decide +kernel
theorem dX6_comeTo_38 : decode cX6_comeTo 38 = .ok (.aload_n 0, 1) := by decide +kernel
theorem dX6_comeTo_39 : decode cX6_comeTo 39 = .ok (.lload_n 1, 1) := by decide +kernel
theorem dX6_comeTo_40 : decode cX6_comeTo 40 = .ok (.iload_n 3, 1) := by decide +kernel
theorem dX6_comeTo_41 : decode cX6_comeTo 41 = .ok (.iload 4, 2) := by decide +kernel
theorem dX6_comeTo_43 : decode cX6_comeTo 43 = .ok (.invokevirtual 49, 3) := by decide +kernel
theorem dX6_comeTo_46 : decode cX6_comeTo 46 = .ok (.ifCond .ne 9, 3) := by decide +kernel
theorem dX6_comeTo_49 : decode cX6_comeTo 49 = .ok (.aload_n 0, 1) := by decide +kernel
theorem dX6_comeTo_50 : decode cX6_comeTo 50 = .ok (.bipush (-7), 2) := by decide +kernel
theorem dX6_comeTo_52 : decode cX6_comeTo 52 = .ok (.putfield 42, 3) := by decide +kernel
theorem dX6_comeTo_55 : decode cX6_comeTo 55 = .ok (.return_, 1) := by decide +kernel
theorem dX6_add_0 : decode cX6_add 0 = .ok (.aload_n 0, 1) := by decide +kernel
theorem dX6_add_1 : decode cX6_add 1 = .ok (.getfield 32, 3) := by decide +kernel
theorem dX6_add_4 : decode cX6_add 4 = .ok (.sipush 250, 3) := by decide +kernel
theorem dX6_add_7 : decode cX6_add 7 = .ok (.if_icmp .lt 5, 3) := by decide +kernel
theorem dX6_add_10 : decode cX6_add 10 = .ok (.iconst 0, 1) := by decide +kernel
theorem dX6_add_11 : decode cX6_add 11 = .ok (.ireturn, 1) := by decide +kernel
theorem dX6_add_12 : decode cX6_add 12 = .ok (.aload_n 0, 1) := by decide +kernel
theorem dX6_add_13 : decode cX6_add 13 = .ok (.getfield 21, 3) := by decide +kernel
theorem dX6_add_16 : decode cX6_add 16 = .ok (.aload_n 0, 1) := by decide +kernel
theorem dX6_add_17 : decode cX6_add 17 = .ok (.getfield 32, 3) := by decide +kernel
theorem dX6_add_20 : decode cX6_add 20 = .ok (.lload_n 1, 1) := by decide +kernel
theorem dX6_add_21 : decode cX6_add 21 = .ok (.lastore, 1) := by decide +kernel
theorem dX6_add_22 : decode cX6_add 22 = .ok (.aload_n 0, 1) := by decide +kernel
theorem dX6_add_23 : decode cX6_add 23 = .ok (.getfield 25, 3) := by decide +kernel
theorem dX6_add_26 : decode cX6_add 26 = .ok (.aload_n 0, 1) := by decide +kernel
theorem dX6_add_27 : decode cX6_add 27 = .ok (.getfield 32, 3) := by decide +kernel
theorem dX6_add_30 : decode cX6_add 30 = .ok (.iload_n 3, 1) := by decide +kernel
theorem dX6_add_31 : decode cX6_add 31 = .ok (.iastore, 1) := by decide +kernel
theorem dX6_add_32 : decode cX6_add 32 = .ok (.aload_n 0, 1) := by decide +kernel
theorem dX6_add_33 : decode cX6_add 33 = .ok (.getfield 29, 3) := by decide +kernel
theorem dX6_add_36 : decode cX6_add 36 = .ok (.aload_n 0, 1) := by decide +kernel
theorem dX6_add_37 : decode cX6_add 37 = .ok (.getfield 32, 3) := by decide +kernel
theorem dX6_add_40 : decode cX6_add 40 = .ok (.iload 4, 2) := by decide +kernel
theorem dX6_add_42 : decode cX6_add 42 = .ok (.iastore, 1) := by decide +kernel
theorem dX6_add_43 : decode cX6_add 43 = .ok (.aload_n 0, 1) := by decide +kernel
theorem dX6_add_44 : decode cX6_add 44 = .ok (.dup, 1) := by decide +kernel
theorem dX6_add_45 : decode cX6_add 45 = .ok (.getfield 32, 3) := by decide +kernel
theorem dX6_add_48 : decode cX6_add 48 = .ok (.iconst 1, 1) := by decide +kernel
theorem dX6_add_49 : decode cX6_add 49 = .ok (.iadd, 1) := by decide +kernel
theorem dX6_add_50 : decode cX6_add 50 = .ok (.putfield 32, 3) := by decide +kernel
theorem dX6_add_53 : decode cX6_add 53 = .ok (.iconst 1, 1) := by decide +kernel
theorem dX6_add_54 : decode cX6_add 54 = .ok (.ireturn, 1) := by decide +kernel
theorem dX6_trace_0 : decode cX6_trace 0 = .ok (.iconst 1, 1) := by decide +kernel
theorem dX6_trace_1 : decode cX6_trace 1 = .ok (.istore_n 3, 1) := by decide +kernel
theorem dX6_trace_2 : decode cX6_trace 2 = .ok (.iload_n 1, 1) := by decide +kernel
theorem dX6_trace_3 : decode cX6_trace 3 = .ok (.istore 4, 2) := by decide +kernel
theorem dX6_trace_5 : decode cX6_trace 5 = .ok (.iload 4, 2) := by decide +kernel
theorem dX6_trace_7 : decode cX6_trace 7 = .ok (.ifCond .le 25, 3) := by decide +kernel
theorem dX6_trace_10 : decode cX6_trace 10 = .ok (.iload_n 3, 1) := by decide +kernel
theorem dX6_trace_11 : decode cX6_trace 11 = .ok (.sipush 250, 3) := by decide +kernel
theorem dX6_trace_14 : decode cX6_trace 14 = .ok (.if_icmp .ge 18, 3) := by decide +kernel
theorem dX6_trace_17 : decode cX6_trace 17 = .ok (.iinc 3 1, 3) := by decide +kernel
theorem dX6_trace_20 : decode cX6_trace 20 = .ok (.aload_n 0, 1) := by decide +kernel
theorem dX6_trace_21 : decode cX6_trace 21 = .ok (.getfield 25, 3) := by decide +kernel
theorem dX6_trace_24 : decode cX6_trace 24 = .ok (.iload 4, 2) := by decide +kernel
theorem dX6_trace_26 : decode cX6_trace 26 = .ok (.iaload, 1) := by decide +kernel
theorem dX6_trace_27 : decode cX6_trace 27 = .ok (.istore 4, 2) := by decide +kernel
theorem dX6_trace_29 : decode cX6_trace 29 = .ok (.goto (-24), 3) := by decide +kernel
theorem dX6_trace_32 : decode cX6_trace 32 = .ok (.iload_n 3, 1) := by decide +kernel
theorem dX6_trace_33 : decode cX6_trace 33 = .ok (.iconst 1, 1) := by decide +kernel
theorem dX6_trace_34 : decode cX6_trace 34 = .ok (.isub, 1) := by decide +kernel
theorem dX6_trace_35 : decode cX6_trace 35 = .ok (.istore 4, 2) := by decide +kernel
theorem dX6_trace_37 : decode cX6_trace 37 = .ok (.aload_n 0, 1) := by decide +kernel
theorem dX6_trace_38 : decode cX6_trace 38 = .ok (.getfield 36, 3) := by decide +kernel
theorem dX6_trace_41 : decode cX6_trace 41 = .ok (.iload 4, 2) := by decide +kernel
theorem dX6_trace_43 : decode cX6_trace 43 = .ok (.iload_n 2, 1) := by decide +kernel
theorem dX6_trace_44 : decode cX6_trace 44 = .ok (.iastore, 1) := by decide +kernel
theorem dX6_trace_45 : decode cX6_trace 45 = .ok (.iload_n 1, 1) := by decide +kernel
theorem dX6_trace_46 : decode cX6_trace 46 = .ok (.istore 5, 2) := by decide +kernel
theorem dX6_trace_48 : decode cX6_trace 48 = .ok (.iload 5, 2) := by decide +kernel
theorem dX6_trace_50 : decode cX6_trace 50 = .ok (.ifCond .le 37, 3) := by decide +kernel
theorem dX6_trace_53 : decode cX6_trace 53 = .ok (.iload 4, 2) := by decide +kernel
theorem dX6_trace_55 : decode cX6_trace 55 = .ok (.ifCond .le 32, 3) := by decide +kernel
theorem dX6_trace_58 : decode cX6_trace 58 = .ok (.iinc 4 (-1), 3) := by decide +kernel
theorem dX6_trace_61 : decode cX6_trace 61 = .ok (.aload_n 0, 1) := by decide +kernel
theorem dX6_trace_62 : decode cX6_trace 62 = .ok (.getfield 36, 3) := by decide +kernel
theorem dX6_trace_65 : decode cX6_trace 65 = .ok (.iload 4, 2) := by decide +kernel
theorem dX6_trace_67 : decode cX6_trace 67 = .ok (.aload_n 0, 1) := by decide +kernel
theorem dX6_trace_68 : decode cX6_trace 68 = .ok (.getfield 29, 3) := by decide +kernel
theorem dX6_trace_71 : decode cX6_trace 71 = .ok (.iload 5, 2) := by decide +kernel
theorem dX6_trace_73 : decode cX6_trace 73 = .ok (.iaload, 1) := by decide +kernel
theorem dX6_trace_74 : decode cX6_trace 74 = .ok (.iastore, 1) := by decide +kernel
theorem dX6_trace_75 : decode cX6_trace 75 = .ok (.aload_n 0, 1) := by decide +kernel
theorem dX6_trace_76 : decode cX6_trace 76 = .ok (.getfield 25, 3) := by decide +kernel
theorem dX6_trace_79 : decode cX6_trace 79 = .ok (.iload 5, 2) := by decide +kernel
theorem dX6_trace_81 : decode cX6_trace 81 = .ok (.iaload, 1) := by decide +kernel
theorem dX6_trace_82 : decode cX6_trace 82 = .ok (.istore 5, 2) := by decide +kernel
theorem dX6_trace_84 : decode cX6_trace 84 = .ok (.goto (-36), 3) := by decide +kernel
theorem dX6_trace_87 : decode cX6_trace 87 = .ok (.iload_n 3, 1) := by decide +kernel
theorem dX6_trace_88 : decode cX6_trace 88 = .ok (.ireturn, 1) := by decide +kernel
theorem dX7_ofWho_0 : decode cX7_ofWho 0 = .ok (.iload_n 0, 1) := by decide +kernel
theorem dX7_ofWho_1 : decode cX7_ofWho 1 = .ok (.tableswitch 78 0 8 #[51, 54, 57, 60, 63, 66, 69, 72, 75], 51) := by decide +kernel
theorem dX7_ofWho_52 : decode cX7_ofWho 52 = .ok (.ldc 9, 2) := by decide +kernel
theorem dX7_ofWho_54 : decode cX7_ofWho 54 = .ok (.areturn, 1) := by decide +kernel
theorem dX7_ofWho_55 : decode cX7_ofWho 55 = .ok (.ldc 11, 2) := by decide +kernel
theorem dX7_ofWho_57 : decode cX7_ofWho 57 = .ok (.areturn, 1) := by decide +kernel
theorem dX7_ofWho_58 : decode cX7_ofWho 58 = .ok (.ldc 13, 2) := by decide +kernel
theorem dX7_ofWho_60 : decode cX7_ofWho 60 = .ok (.areturn, 1) := by decide +kernel
theorem dX7_ofWho_61 : decode cX7_ofWho 61 = .ok (.ldc 15, 2) := by decide +kernel
theorem dX7_ofWho_63 : decode cX7_ofWho 63 = .ok (.areturn, 1) := by decide +kernel
theorem dX7_ofWho_64 : decode cX7_ofWho 64 = .ok (.ldc 17, 2) := by decide +kernel
theorem dX7_ofWho_66 : decode cX7_ofWho 66 = .ok (.areturn, 1) := by decide +kernel
theorem dX7_ofWho_67 : decode cX7_ofWho 67 = .ok (.ldc 19, 2) := by decide +kernel
theorem dX7_ofWho_69 : decode cX7_ofWho 69 = .ok (.areturn, 1) := by decide +kernel
theorem dX7_ofWho_70 : decode cX7_ofWho 70 = .ok (.ldc 21, 2) := by decide +kernel
theorem dX7_ofWho_72 : decode cX7_ofWho 72 = .ok (.areturn, 1) := by decide +kernel
theorem dX7_ofWho_73 : decode cX7_ofWho 73 = .ok (.ldc 23, 2) := by decide +kernel
theorem dX7_ofWho_75 : decode cX7_ofWho 75 = .ok (.areturn, 1) := by decide +kernel
theorem dX7_ofWho_76 : decode cX7_ofWho 76 = .ok (.ldc 25, 2) := by decide +kernel
theorem dX7_ofWho_78 : decode cX7_ofWho 78 = .ok (.areturn, 1) := by decide +kernel
theorem dX7_ofWho_79 : decode cX7_ofWho 79 = .ok (.ldc 27, 2) := by decide +kernel
theorem dX7_ofWho_81 : decode cX7_ofWho 81 = .ok (.areturn, 1) := by decide +kernel
theorem dX7_ofFigure_0 : decode cX7_ofFigure 0 = .ok (.iload_n 0, 1) := by decide +kernel
theorem dX7_ofFigure_1 : decode cX7_ofFigure 1 = .ok (.tableswitch 99 0 11 #[63, 66, 69, 72, 75, 78, 81, 84, 87, 90, 93, 96], 63) := by decide +kernel
theorem dX7_ofFigure_64 : decode cX7_ofFigure 64 = .ok (.ldc 29, 2) := by decide +kernel
theorem dX7_ofFigure_66 : decode cX7_ofFigure 66 = .ok (.areturn, 1) := by decide +kernel
theorem dX7_ofFigure_67 : decode cX7_ofFigure 67 = .ok (.ldc 31, 2) := by decide +kernel
theorem dX7_ofFigure_69 : decode cX7_ofFigure 69 = .ok (.areturn, 1) := by decide +kernel
theorem dX7_ofFigure_70 : decode cX7_ofFigure 70 = .ok (.ldc 33, 2) := by decide +kernel
theorem dX7_ofFigure_72 : decode cX7_ofFigure 72 = .ok (.areturn, 1) := by decide +kernel
theorem dX7_ofFigure_73 : decode cX7_ofFigure 73 = .ok (.ldc 35, 2) := by decide +kernel
theorem dX7_ofFigure_75 : decode cX7_ofFigure 75 = .ok (.areturn, 1) := by decide +kernel
theorem dX7_ofFigure_76 : decode cX7_ofFigure 76 = .ok (.ldc 37, 2) := by decide +kernel
theorem dX7_ofFigure_78 : decode cX7_ofFigure 78 = .ok (.areturn, 1) := by decide +kernel
theorem dX7_ofFigure_79 : decode cX7_ofFigure 79 = .ok (.ldc 39, 2) := by decide +kernel
theorem dX7_ofFigure_81 : decode cX7_ofFigure 81 = .ok (.areturn, 1) := by decide +kernel
theorem dX7_ofFigure_82 : decode cX7_ofFigure 82 = .ok (.ldc 41, 2) := by decide +kernel
theorem dX7_ofFigure_84 : decode cX7_ofFigure 84 = .ok (.areturn, 1) := by decide +kernel
theorem dX7_ofFigure_85 : decode cX7_ofFigure 85 = .ok (.ldc 43, 2) := by decide +kernel
theorem dX7_ofFigure_87 : decode cX7_ofFigure 87 = .ok (.areturn, 1) := by decide +kernel
theorem dX7_ofFigure_88 : decode cX7_ofFigure 88 = .ok (.ldc 45, 2) := by decide +kernel
theorem dX7_ofFigure_90 : decode cX7_ofFigure 90 = .ok (.areturn, 1) := by decide +kernel
theorem dX7_ofFigure_91 : decode cX7_ofFigure 91 = .ok (.ldc 47, 2) := by decide +kernel
theorem dX7_ofFigure_93 : decode cX7_ofFigure 93 = .ok (.areturn, 1) := by decide +kernel
theorem dX7_ofFigure_94 : decode cX7_ofFigure 94 = .ok (.ldc 49, 2) := by decide +kernel
theorem dX7_ofFigure_96 : decode cX7_ofFigure 96 = .ok (.areturn, 1) := by decide +kernel
theorem dX7_ofFigure_97 : decode cX7_ofFigure 97 = .ok (.ldc 51, 2) := by decide +kernel
theorem dX7_ofFigure_99 : decode cX7_ofFigure 99 = .ok (.areturn, 1) := by decide +kernel
theorem dX7_ofFigure_100 : decode cX7_ofFigure 100 = .ok (.ldc 27, 2) := by decide +kernel
theorem dX7_ofFigure_102 : decode cX7_ofFigure 102 = .ok (.areturn, 1) := by decide +kernel
theorem dX8_init_0 : decode cX8_init 0 = .ok (.aload_n 0, 1) := by decide +kernel
theorem dX8_init_1 : decode cX8_init 1 = .ok (.invokespecial 3, 3) := by decide +kernel
theorem dX8_init_4 : decode cX8_init 4 = .ok (.aload_n 0, 1) := by decide +kernel
theorem dX8_init_5 : decode cX8_init 5 = .ok (.new 9, 3) := by decide +kernel
theorem dX8_init_8 : decode cX8_init 8 = .ok (.dup, 1) := by decide +kernel
theorem dX8_init_9 : decode cX8_init 9 = .ok (.invokespecial 11, 3) := by decide +kernel
theorem dX8_init_12 : decode cX8_init 12 = .ok (.putfield 12, 3) := by decide +kernel
theorem dX8_init_15 : decode cX8_init 15 = .ok (.aload_n 0, 1) := by decide +kernel
theorem dX8_init_16 : decode cX8_init 16 = .ok (.new 16, 3) := by decide +kernel
theorem dX8_init_19 : decode cX8_init 19 = .ok (.dup, 1) := by decide +kernel
theorem dX8_init_20 : decode cX8_init 20 = .ok (.invokespecial 18, 3) := by decide +kernel
theorem dX8_init_23 : decode cX8_init 23 = .ok (.putfield 19, 3) := by decide +kernel
theorem dX8_init_26 : decode cX8_init 26 = .ok (.aload_n 0, 1) := by decide +kernel
theorem dX8_init_27 : decode cX8_init 27 = .ok (.new 23, 3) := by decide +kernel
theorem dX8_init_30 : decode cX8_init 30 = .ok (.dup, 1) := by decide +kernel
theorem dX8_init_31 : decode cX8_init 31 = .ok (.invokespecial 25, 3) := by decide +kernel
theorem dX8_init_34 : decode cX8_init 34 = .ok (.putfield 26, 3) := by decide +kernel
theorem dX8_init_37 : decode cX8_init 37 = .ok (.aload_n 0, 1) := by decide +kernel
theorem dX8_init_38 : decode cX8_init 38 = .ok (.new 23, 3) := by decide +kernel
theorem dX8_init_41 : decode cX8_init 41 = .ok (.dup, 1) := by decide +kernel
theorem dX8_init_42 : decode cX8_init 42 = .ok (.invokespecial 25, 3) := by decide +kernel
theorem dX8_init_45 : decode cX8_init 45 = .ok (.putfield 30, 3) := by decide +kernel
theorem dX8_init_48 : decode cX8_init 48 = .ok (.aload_n 0, 1) := by decide +kernel
theorem dX8_init_49 : decode cX8_init 49 = .ok (.iconst 0, 1) := by decide +kernel
theorem dX8_init_50 : decode cX8_init 50 = .ok (.putfield 33, 3) := by decide +kernel
theorem dX8_init_53 : decode cX8_init 53 = .ok (.aload_n 0, 1) := by decide +kernel
theorem dX8_init_54 : decode cX8_init 54 = .ok (.new 37, 3) := by decide +kernel
theorem dX8_init_57 : decode cX8_init 57 = .ok (.dup, 1) := by decide +kernel
theorem dX8_init_58 : decode cX8_init 58 = .ok (.invokespecial 39, 3) := by decide +kernel
theorem dX8_init_61 : decode cX8_init 61 = .ok (.putfield 40, 3) := by decide +kernel
theorem dX8_init_64 : decode cX8_init 64 = .ok (.aload_n 0, 1) := by decide +kernel
theorem dX8_init_65 : decode cX8_init 65 = .ok (.new 44, 3) := by decide +kernel
theorem dX8_init_68 : decode cX8_init 68 = .ok (.dup, 1) := by decide +kernel
theorem dX8_init_69 : decode cX8_init 69 = .ok (.aload_n 0, 1) := by decide +kernel
theorem dX8_init_70 : decode cX8_init 70 = .ok (.getfield 19, 3) := by decide +kernel
theorem dX8_init_73 : decode cX8_init 73 = .ok (.invokespecial 46, 3) := by decide +kernel
theorem dX8_init_76 : decode cX8_init 76 = .ok (.putfield 49, 3) := by decide +kernel
theorem dX8_init_79 : decode cX8_init 79 = .ok (.aload_n 0, 1) := by decide +kernel
theorem dX8_init_80 : decode cX8_init 80 = .ok (.new 53, 3) := by decide +kernel
theorem dX8_init_83 : decode cX8_init 83 = .ok (.dup, 1) := by decide +kernel
theorem dX8_init_84 : decode cX8_init 84 = .ok (.invokespecial 55, 3) := by decide +kernel
theorem dX8_init_87 : decode cX8_init 87 = .ok (.putfield 56, 3) := by decide +kernel
theorem dX8_init_90 : decode cX8_init 90 = .ok (.aload_n 0, 1) := by decide +kernel
theorem dX8_init_91 : decode cX8_init 91 = .ok (.bipush 12, 2) := by decide +kernel
theorem dX8_init_93 : decode cX8_init 93 = .ok (.newarray .int, 2) := by decide +kernel
theorem dX8_init_95 : decode cX8_init 95 = .ok (.putfield 60, 3) := by decide +kernel
theorem dX8_init_98 : decode cX8_init 98 = .ok (.return_, 1) := by decide +kernel
theorem dX8_feed_0 : decode cX8_feed 0 = .ok (.iload_n 1, 1) := by decide +kernel
theorem dX8_feed_1 : decode cX8_feed 1 = .ok (.bipush 32, 2) := by decide +kernel
theorem dX8_feed_3 : decode cX8_feed 3 = .ok (.if_icmp .lt 9, 3) := by decide +kernel
theorem dX8_feed_6 : decode cX8_feed 6 = .ok (.iload_n 1, 1) := by decide +kernel
theorem dX8_feed_7 : decode cX8_feed 7 = .ok (.bipush 126, 2) := by decide +kernel
theorem dX8_feed_9 : decode cX8_feed 9 = .ok (.if_icmp .le 5, 3) := by decide +kernel
theorem dX8_feed_12 : decode cX8_feed 12 = .ok (.iconst (-1), 1) := by decide +kernel
theorem dX8_feed_13 : decode cX8_feed 13 = .ok (.ireturn, 1) := by decide +kernel
theorem dX8_feed_14 : decode cX8_feed 14 = .ok (.aload_n 0, 1) := by decide +kernel
theorem dX8_feed_15 : decode cX8_feed 15 = .ok (.getfield 12, 3) := by decide +kernel
theorem dX8_feed_18 : decode cX8_feed 18 = .ok (.iload_n 1, 1) := by decide +kernel
theorem dX8_feed_19 : decode cX8_feed 19 = .ok (.invokevirtual 64, 3) := by decide +kernel
theorem dX8_feed_22 : decode cX8_feed 22 = .ok (.ifCond .eq 13, 3) := by decide +kernel
theorem dX8_feed_25 : decode cX8_feed 25 = .ok (.aload_n 0, 1) := by decide +kernel
theorem dX8_feed_26 : decode cX8_feed 26 = .ok (.getfield 12, 3) := by decide +kernel
theorem dX8_feed_29 : decode cX8_feed 29 = .ok (.getfield 68, 3) := by decide +kernel
theorem dX8_feed_32 : decode cX8_feed 32 = .ok (.goto 5, 3) := by decide +kernel
theorem dX8_feed_35 : decode cX8_feed 35 = .ok (.bipush (-3), 2) := by decide +kernel
theorem dX8_feed_37 : decode cX8_feed 37 = .ok (.ireturn, 1) := by decide +kernel
theorem dX8_dance_0 : decode cX8_dance 0 = .ok (.aload_n 0, 1) := by decide +kernel
theorem dX8_dance_1 : decode cX8_dance 1 = .ok (.getfield 12, 3) := by decide +kernel
theorem dX8_dance_4 : decode cX8_dance 4 = .ok (.invokevirtual 72, 3) := by decide +kernel
theorem dX8_dance_7 : decode cX8_dance 7 = .ok (.istore_n 1, 1) := by decide +kernel
theorem dX8_dance_8 : decode cX8_dance 8 = .ok (.iload_n 1, 1) := by decide +kernel
theorem dX8_dance_9 : decode cX8_dance 9 = .ok (.iconst (-1), 1) := by decide +kernel
theorem dX8_dance_10 : decode cX8_dance 10 = .ok (.if_icmp .eq 8, 3) := by decide +kernel
theorem dX8_dance_13 : decode cX8_dance 13 = .ok (.bipush (-100), 2) := by decide +kernel
theorem dX8_dance_15 : decode cX8_dance 15 = .ok (.iload_n 1, 1) := by decide +kernel
theorem dX8_dance_16 : decode cX8_dance 16 = .ok (.isub, 1) := by decide +kernel
theorem dX8_dance_17 : decode cX8_dance 17 = .ok (.ireturn, 1) := by decide +kernel
theorem dX8_dance_18 : decode cX8_dance 18 = .ok (.aload_n 0, 1) := by decide +kernel
theorem dX8_dance_19 : decode cX8_dance 19 = .ok (.getfield 26, 3) := by decide +kernel
theorem dX8_dance_22 : decode cX8_dance 22 = .ok (.getfield 76, 3) := by decide +kernel
theorem dX8_dance_25 : decode cX8_dance 25 = .ok (.aload_n 0, 1) := by decide +kernel
theorem dX8_dance_26 : decode cX8_dance 26 = .ok (.getfield 12, 3) := by decide +kernel
theorem dX8_dance_29 : decode cX8_dance 29 = .ok (.getfield 79, 3) := by decide +kernel
theorem dX8_dance_32 : decode cX8_dance 32 = .ok (.iadd, 1) := by decide +kernel
theorem dX8_dance_33 : decode cX8_dance 33 = .ok (.sipush 200, 3) := by decide +kernel
theorem dX8_dance_36 : decode cX8_dance 36 = .ok (.if_icmp .le 6, 3) := by decide +kernel
theorem dX8_dance_39 : decode cX8_dance 39 = .ok (.bipush (-3), 2) := by decide +kernel
theorem dX8_dance_41 : decode cX8_dance 41 = .ok (.ireturn, 1) := by decide +kernel
theorem dX8_dance_42 : decode cX8_dance 42 = .ok (.aload_n 0, 1) := by decide +kernel
theorem dX8_dance_43 : decode cX8_dance 43 = .ok (.getfield 40, 3) := by decide +kernel
theorem dX8_dance_46 : decode cX8_dance 46 = .ok (.invokevirtual 82, 3) := by decide +kernel
theorem dX8_dance_49 : decode cX8_dance 49 = .ok (.iconst 0, 1) := by decide +kernel
theorem dX8_dance_50 : decode cX8_dance 50 = .ok (.istore_n 2, 1) := by decide +kernel
theorem dX8_dance_51 : decode cX8_dance 51 = .ok (.iload_n 2, 1) := by decide +kernel
theorem dX8_dance_52 : decode cX8_dance 52 = .ok (.aload_n 0, 1) := by decide +kernel
theorem dX8_dance_53 : decode cX8_dance 53 = .ok (.getfield 12, 3) := by decide +kernel
theorem dX8_dance_56 : decode cX8_dance 56 = .ok (.getfield 79, 3) := by decide +kernel
theorem dX8_dance_59 : decode cX8_dance 59 = .ok (.if_icmp .ge 76, 3) := by decide +kernel
theorem dX8_dance_62 : decode cX8_dance 62 = .ok (.aload_n 0, 1) := by decide +kernel
theorem dX8_dance_63 : decode cX8_dance 63 = .ok (.getfield 12, 3) := by decide +kernel
theorem dX8_dance_66 : decode cX8_dance 66 = .ok (.iload_n 2, 1) := by decide +kernel
theorem dX8_dance_67 : decode cX8_dance 67 = .ok (.invokevirtual 85, 3) := by decide +kernel
theorem dX8_dance_70 : decode cX8_dance 70 = .ok (.istore_n 3, 1) := by decide +kernel
theorem dX8_dance_71 : decode cX8_dance 71 = .ok (.aload_n 0, 1) := by decide +kernel
theorem dX8_dance_72 : decode cX8_dance 72 = .ok (.getfield 19, 3) := by decide +kernel
theorem dX8_dance_75 : decode cX8_dance 75 = .ok (.aload_n 0, 1) := by decide +kernel
theorem dX8_dance_76 : decode cX8_dance 76 = .ok (.getfield 26, 3) := by decide +kernel
theorem dX8_dance_79 : decode cX8_dance 79 = .ok (.invokevirtual 89, 3) := by decide +kernel
theorem dX8_dance_82 : decode cX8_dance 82 = .ok (.invokevirtual 93, 3) := by decide +kernel
theorem dX8_dance_85 : decode cX8_dance 85 = .ok (.aload_n 0, 1) := by decide +kernel
theorem dX8_dance_86 : decode cX8_dance 86 = .ok (.getfield 19, 3) := by decide +kernel
theorem dX8_dance_89 : decode cX8_dance 89 = .ok (.iload_n 3, 1) := by decide +kernel
theorem dX8_dance_90 : decode cX8_dance 90 = .ok (.invokevirtual 97, 3) := by decide +kernel
theorem dX8_dance_93 : decode cX8_dance 93 = .ok (.ifCond .ne 16, 3) := by decide +kernel
theorem dX8_dance_96 : decode cX8_dance 96 = .ok (.aload_n 0, 1) := by decide +kernel
theorem dX8_dance_97 : decode cX8_dance 97 = .ok (.getfield 40, 3) := by decide +kernel
theorem dX8_dance_100 : decode cX8_dance 100 = .ok (.aload_n 0, 1) := by decide +kernel
theorem dX8_dance_101 : decode cX8_dance 101 = .ok (.getfield 19, 3) := by decide +kernel
theorem dX8_dance_104 : decode cX8_dance 104 = .ok (.invokevirtual 100, 3) := by decide +kernel
theorem dX8_dance_107 : decode cX8_dance 107 = .ok (.iload_n 2, 1) := by decide +kernel
theorem dX8_dance_108 : decode cX8_dance 108 = .ok (.ireturn, 1) := by decide +kernel
theorem dX8_dance_109 : decode cX8_dance 109 = .ok (.aload_n 0, 1) := by decide +kernel
theorem dX8_dance_110 : decode cX8_dance 110 = .ok (.getfield 26, 3) := by decide +kernel
theorem dX8_dance_113 : decode cX8_dance 113 = .ok (.iload_n 3, 1) := by decide +kernel
theorem dX8_dance_114 : decode cX8_dance 114 = .ok (.aload_n 0, 1) := by decide +kernel
theorem dX8_dance_115 : decode cX8_dance 115 = .ok (.getfield 19, 3) := by decide +kernel
theorem dX8_dance_118 : decode cX8_dance 118 = .ok (.invokevirtual 103, 3) := by decide +kernel
theorem dX8_dance_121 : decode cX8_dance 121 = .ok (.invokevirtual 106, 3) := by decide +kernel
theorem dX8_dance_124 : decode cX8_dance 124 = .ok (.aload_n 0, 1) := by decide +kernel
theorem dX8_dance_125 : decode cX8_dance 125 = .ok (.iload_n 3, 1) := by decide +kernel
theorem dX8_dance_126 : decode cX8_dance 126 = .ok (.invokevirtual 110, 3) := by decide +kernel
theorem dX8_dance_129 : decode cX8_dance 129 = .ok (.iinc 2 1, 3) := by decide +kernel
theorem dX8_dance_132 : decode cX8_dance 132 = .ok (.goto (-81), 3) := by decide +kernel
theorem dX8_dance_135 : decode cX8_dance 135 = .ok (.aload_n 0, 1) := by decide +kernel
theorem dX8_dance_136 : decode cX8_dance 136 = .ok (.getfield 12, 3) := by decide +kernel
theorem dX8_dance_139 : decode cX8_dance 139 = .ok (.getfield 79, 3) := by decide +kernel
theorem dX8_dance_142 : decode cX8_dance 142 = .ok (.ireturn, 1) := by decide +kernel
theorem dX8_fall_0 : decode cX8_fall 0 = .ok (.iload_n 1, 1) := by decide +kernel
theorem dX8_fall_1 : decode cX8_fall 1 = .ok (.iconst (-1), 1) := by decide +kernel
theorem dX8_fall_2 : decode cX8_fall 2 = .ok (.if_icmp .ge 5, 3) := by decide +kernel
theorem dX8_fall_5 : decode cX8_fall 5 = .ok (.iconst (-1), 1) := by decide +kernel
theorem dX8_fall_6 : decode cX8_fall 6 = .ok (.ireturn, 1) := by decide +kernel
theorem dX8_fall_7 : decode cX8_fall 7 = .ok (.iload_n 1, 1) := by decide +kernel
theorem dX8_fall_8 : decode cX8_fall 8 = .ok (.iconst (-1), 1) := by decide +kernel
theorem dX8_fall_9 : decode cX8_fall 9 = .ok (.if_icmp .ne 11, 3) := by decide +kernel
theorem dX8_fall_12 : decode cX8_fall 12 = .ok (.aload_n 0, 1) := by decide +kernel
theorem dX8_fall_13 : decode cX8_fall 13 = .ok (.getfield 40, 3) := by decide +kernel
theorem dX8_fall_16 : decode cX8_fall 16 = .ok (.getfield 114, 3) := by decide +kernel
theorem dX8_fall_19 : decode cX8_fall 19 = .ok (.ireturn, 1) := by decide +kernel
theorem dX8_fall_20 : decode cX8_fall 20 = .ok (.iload_n 1, 1) := by decide +kernel
theorem dX8_fall_21 : decode cX8_fall 21 = .ok (.ifCond .ne 11, 3) := by decide +kernel
theorem dX8_fall_24 : decode cX8_fall 24 = .ok (.aload_n 0, 1) := by decide +kernel
theorem dX8_fall_25 : decode cX8_fall 25 = .ok (.getfield 40, 3) := by decide +kernel
theorem dX8_fall_28 : decode cX8_fall 28 = .ok (.getfield 117, 3) := by decide +kernel
theorem dX8_fall_31 : decode cX8_fall 31 = .ok (.ireturn, 1) := by decide +kernel
theorem dX8_fall_32 : decode cX8_fall 32 = .ok (.aload_n 0, 1) := by decide +kernel
theorem dX8_fall_33 : decode cX8_fall 33 = .ok (.getfield 40, 3) := by decide +kernel
theorem dX8_fall_36 : decode cX8_fall 36 = .ok (.iload_n 1, 1) := by decide +kernel
theorem dX8_fall_37 : decode cX8_fall 37 = .ok (.iconst 1, 1) := by decide +kernel
theorem dX8_fall_38 : decode cX8_fall 38 = .ok (.isub, 1) := by decide +kernel
theorem dX8_fall_39 : decode cX8_fall 39 = .ok (.invokevirtual 118, 3) := by decide +kernel
theorem dX8_fall_42 : decode cX8_fall 42 = .ok (.ifCond .eq 17, 3) := by decide +kernel
theorem dX8_fall_45 : decode cX8_fall 45 = .ok (.aload_n 0, 1) := by decide +kernel
theorem dX8_fall_46 : decode cX8_fall 46 = .ok (.getfield 40, 3) := by decide +kernel
theorem dX8_fall_49 : decode cX8_fall 49 = .ok (.getfield 121, 3) := by decide +kernel
theorem dX8_fall_52 : decode cX8_fall 52 = .ok (.iload_n 1, 1) := by decide +kernel
theorem dX8_fall_53 : decode cX8_fall 53 = .ok (.iconst 1, 1) := by decide +kernel
theorem dX8_fall_54 : decode cX8_fall 54 = .ok (.isub, 1) := by decide +kernel
theorem dX8_fall_55 : decode cX8_fall 55 = .ok (.iaload, 1) := by decide +kernel
theorem dX8_fall_56 : decode cX8_fall 56 = .ok (.goto 5, 3) := by decide +kernel
theorem dX8_fall_59 : decode cX8_fall 59 = .ok (.bipush (-2), 2) := by decide +kernel
theorem dX8_fall_61 : decode cX8_fall 61 = .ok (.ireturn, 1) := by decide +kernel
theorem dX8_would_0 : decode cX8_would 0 = .ok (.aload_n 0, 1) := by decide +kernel
theorem dX8_would_1 : decode cX8_would 1 = .ok (.getfield 12, 3) := by decide +kernel
theorem dX8_would_4 : decode cX8_would 4 = .ok (.invokevirtual 72, 3) := by decide +kernel
theorem dX8_would_7 : decode cX8_would 7 = .ok (.istore_n 1, 1) := by decide +kernel
theorem dX8_would_8 : decode cX8_would 8 = .ok (.iload_n 1, 1) := by decide +kernel
theorem dX8_would_9 : decode cX8_would 9 = .ok (.iconst (-1), 1) := by decide +kernel
theorem dX8_would_10 : decode cX8_would 10 = .ok (.if_icmp .eq 8, 3) := by decide +kernel
theorem dX8_would_13 : decode cX8_would 13 = .ok (.bipush (-100), 2) := by decide +kernel
theorem dX8_would_15 : decode cX8_would 15 = .ok (.iload_n 1, 1) := by decide +kernel
theorem dX8_would_16 : decode cX8_would 16 = .ok (.isub, 1) := by decide +kernel
theorem dX8_would_17 : decode cX8_would 17 = .ok (.ireturn, 1) := by decide +kernel
theorem dX8_would_18 : decode cX8_would 18 = .ok (.aload_n 0, 1) := by decide +kernel
theorem dX8_would_19 : decode cX8_would 19 = .ok (.getfield 12, 3) := by decide +kernel
theorem dX8_would_22 : decode cX8_would 22 = .ok (.getfield 79, 3) := by decide +kernel
theorem dX8_would_25 : decode cX8_would 25 = .ok (.iconst 1, 1) := by decide +kernel
theorem dX8_would_26 : decode cX8_would 26 = .ok (.if_icmp .eq 5, 3) := by decide +kernel
theorem dX8_would_29 : decode cX8_would 29 = .ok (.iconst (-1), 1) := by decide +kernel
theorem dX8_would_30 : decode cX8_would 30 = .ok (.ireturn, 1) := by decide +kernel
theorem dX8_would_31 : decode cX8_would 31 = .ok (.aload_n 0, 1) := by decide +kernel
theorem dX8_would_32 : decode cX8_would 32 = .ok (.getfield 19, 3) := by decide +kernel
theorem dX8_would_35 : decode cX8_would 35 = .ok (.aload_n 0, 1) := by decide +kernel
theorem dX8_would_36 : decode cX8_would 36 = .ok (.getfield 26, 3) := by decide +kernel
theorem dX8_would_39 : decode cX8_would 39 = .ok (.invokevirtual 89, 3) := by decide +kernel
theorem dX8_would_42 : decode cX8_would 42 = .ok (.invokevirtual 93, 3) := by decide +kernel
theorem dX8_would_45 : decode cX8_would 45 = .ok (.aload_n 0, 1) := by decide +kernel
theorem dX8_would_46 : decode cX8_would 46 = .ok (.getfield 19, 3) := by decide +kernel
theorem dX8_would_49 : decode cX8_would 49 = .ok (.aload_n 0, 1) := by decide +kernel
theorem dX8_would_50 : decode cX8_would 50 = .ok (.getfield 12, 3) := by decide +kernel
theorem dX8_would_53 : decode cX8_would 53 = .ok (.iconst 0, 1) := by decide +kernel
theorem dX8_would_54 : decode cX8_would 54 = .ok (.invokevirtual 85, 3) := by decide +kernel
theorem dX8_would_57 : decode cX8_would 57 = .ok (.invokevirtual 97, 3) := by decide +kernel
theorem dX8_would_60 : decode cX8_would 60 = .ok (.ifCond .eq 13, 3) := by decide +kernel
theorem dX8_would_63 : decode cX8_would 63 = .ok (.aload_n 0, 1) := by decide +kernel
theorem dX8_would_64 : decode cX8_would 64 = .ok (.getfield 19, 3) := by decide +kernel
theorem dX8_would_67 : decode cX8_would 67 = .ok (.getfield 124, 3) := by decide +kernel
theorem dX8_would_70 : decode cX8_would 70 = .ok (.goto 5, 3) := by decide +kernel
theorem dX8_would_73 : decode cX8_would 73 = .ok (.bipush (-2), 2) := by decide +kernel
theorem dX8_would_75 : decode cX8_would 75 = .ok (.ireturn, 1) := by decide +kernel
theorem dX8_undo_0 : decode cX8_undo 0 = .ok (.aload_n 0, 1) := by decide +kernel
theorem dX8_undo_1 : decode cX8_undo 1 = .ok (.getfield 26, 3) := by decide +kernel
theorem dX8_undo_4 : decode cX8_undo 4 = .ok (.invokevirtual 127, 3) := by decide +kernel
theorem dX8_undo_7 : decode cX8_undo 7 = .ok (.ifCond .eq 13, 3) := by decide +kernel
theorem dX8_undo_10 : decode cX8_undo 10 = .ok (.aload_n 0, 1) := by decide +kernel
theorem dX8_undo_11 : decode cX8_undo 11 = .ok (.getfield 26, 3) := by decide +kernel
theorem dX8_undo_14 : decode cX8_undo 14 = .ok (.getfield 76, 3) := by decide +kernel
theorem dX8_undo_17 : decode cX8_undo 17 = .ok (.goto 5, 3) := by decide +kernel
theorem dX8_undo_20 : decode cX8_undo 20 = .ok (.bipush (-5), 2) := by decide +kernel
theorem dX8_undo_22 : decode cX8_undo 22 = .ok (.ireturn, 1) := by decide +kernel
theorem dX8_redo_0 : decode cX8_redo 0 = .ok (.aload_n 0, 1) := by decide +kernel
theorem dX8_redo_1 : decode cX8_redo 1 = .ok (.getfield 26, 3) := by decide +kernel
theorem dX8_redo_4 : decode cX8_redo 4 = .ok (.invokevirtual 131, 3) := by decide +kernel
theorem dX8_redo_7 : decode cX8_redo 7 = .ok (.ifCond .ne 6, 3) := by decide +kernel
theorem dX8_redo_10 : decode cX8_redo 10 = .ok (.bipush (-5), 2) := by decide +kernel
theorem dX8_redo_12 : decode cX8_redo 12 = .ok (.ireturn, 1) := by decide +kernel
theorem dX8_redo_13 : decode cX8_redo 13 = .ok (.aload_n 0, 1) := by decide +kernel
theorem dX8_redo_14 : decode cX8_redo 14 = .ok (.aload_n 0, 1) := by decide +kernel
theorem dX8_redo_15 : decode cX8_redo 15 = .ok (.getfield 26, 3) := by decide +kernel
theorem dX8_redo_18 : decode cX8_redo 18 = .ok (.aload_n 0, 1) := by decide +kernel
theorem dX8_redo_19 : decode cX8_redo 19 = .ok (.getfield 26, 3) := by decide +kernel
theorem dX8_redo_22 : decode cX8_redo 22 = .ok (.getfield 76, 3) := by decide +kernel
theorem dX8_redo_25 : decode cX8_redo 25 = .ok (.iconst 1, 1) := by decide +kernel
theorem dX8_redo_26 : decode cX8_redo 26 = .ok (.isub, 1) := by decide +kernel
theorem dX8_redo_27 : decode cX8_redo 27 = .ok (.invokevirtual 134, 3) := by decide +kernel
theorem dX8_redo_30 : decode cX8_redo 30 = .ok (.invokevirtual 110, 3) := by decide +kernel
theorem dX8_redo_33 : decode cX8_redo 33 = .ok (.aload_n 0, 1) := by decide +kernel
theorem dX8_redo_34 : decode cX8_redo 34 = .ok (.getfield 26, 3) := by decide +kernel
theorem dX8_redo_37 : decode cX8_redo 37 = .ok (.getfield 76, 3) := by decide +kernel
theorem dX8_redo_40 : decode cX8_redo 40 = .ok (.ireturn, 1) := by decide +kernel
theorem dX8_home_0 : decode cX8_home 0 = .ok (.aload_n 0, 1) := by decide +kernel
theorem dX8_home_1 : decode cX8_home 1 = .ok (.getfield 26, 3) := by decide +kernel
theorem dX8_home_4 : decode cX8_home 4 = .ok (.getfield 76, 3) := by decide +kernel
theorem dX8_home_7 : decode cX8_home 7 = .ok (.istore_n 1, 1) := by decide +kernel
theorem dX8_home_8 : decode cX8_home 8 = .ok (.aload_n 0, 1) := by decide +kernel
theorem dX8_home_9 : decode cX8_home 9 = .ok (.getfield 26, 3) := by decide +kernel
theorem dX8_home_12 : decode cX8_home 12 = .ok (.invokevirtual 135, 3) := by decide +kernel
theorem dX8_home_15 : decode cX8_home 15 = .ok (.iload_n 1, 1) := by decide +kernel
theorem dX8_home_16 : decode cX8_home 16 = .ok (.ireturn, 1) := by decide +kernel
theorem dX8_at_0 : decode cX8_at 0 = .ok (.iload_n 1, 1) := by decide +kernel
theorem dX8_at_1 : decode cX8_at 1 = .ok (.ifCond .lt 18, 3) := by decide +kernel
theorem dX8_at_4 : decode cX8_at 4 = .ok (.iload_n 1, 1) := by decide +kernel
theorem dX8_at_5 : decode cX8_at 5 = .ok (.bipush 8, 2) := by decide +kernel
theorem dX8_at_7 : decode cX8_at 7 = .ok (.if_icmp .ge 12, 3) := by decide +kernel
theorem dX8_at_10 : decode cX8_at 10 = .ok (.iload_n 2, 1) := by decide +kernel
theorem dX8_at_11 : decode cX8_at 11 = .ok (.ifCond .lt 8, 3) := by decide +kernel
theorem dX8_at_14 : decode cX8_at 14 = .ok (.iload_n 2, 1) := by decide +kernel
theorem dX8_at_15 : decode cX8_at 15 = .ok (.iconst 5, 1) := by decide +kernel
theorem dX8_at_16 : decode cX8_at 16 = .ok (.if_icmp .le 5, 3) := by decide +kernel
theorem dX8_at_19 : decode cX8_at 19 = .ok (.iconst (-1), 1) := by decide +kernel
theorem dX8_at_20 : decode cX8_at 20 = .ok (.ireturn, 1) := by decide +kernel
theorem dX8_at_21 : decode cX8_at 21 = .ok (.aload_n 0, 1) := by decide +kernel
theorem dX8_at_22 : decode cX8_at 22 = .ok (.getfield 19, 3) := by decide +kernel
theorem dX8_at_25 : decode cX8_at 25 = .ok (.aload_n 0, 1) := by decide +kernel
theorem dX8_at_26 : decode cX8_at 26 = .ok (.getfield 26, 3) := by decide +kernel
theorem dX8_at_29 : decode cX8_at 29 = .ok (.invokevirtual 89, 3) := by decide +kernel
theorem dX8_at_32 : decode cX8_at 32 = .ok (.invokevirtual 93, 3) := by decide +kernel
theorem dX8_at_35 : decode cX8_at 35 = .ok (.iload_n 2, 1) := by decide +kernel
theorem dX8_at_36 : decode cX8_at 36 = .ok (.tableswitch 95 0 4 #[36, 46, 56, 69, 82], 36) := by decide +kernel
theorem dX8_at_72 : decode cX8_at 72 = .ok (.aload_n 0, 1) := by decide +kernel
theorem dX8_at_73 : decode cX8_at 73 = .ok (.getfield 19, 3) := by decide +kernel
theorem dX8_at_76 : decode cX8_at 76 = .ok (.getfield 136, 3) := by decide +kernel
theorem dX8_at_79 : decode cX8_at 79 = .ok (.iload_n 1, 1) := by decide +kernel
theorem dX8_at_80 : decode cX8_at 80 = .ok (.iaload, 1) := by decide +kernel
theorem dX8_at_81 : decode cX8_at 81 = .ok (.ireturn, 1) := by decide +kernel
theorem dX8_at_82 : decode cX8_at 82 = .ok (.aload_n 0, 1) := by decide +kernel
theorem dX8_at_83 : decode cX8_at 83 = .ok (.getfield 19, 3) := by decide +kernel
theorem dX8_at_86 : decode cX8_at 86 = .ok (.getfield 139, 3) := by decide +kernel
theorem dX8_at_89 : decode cX8_at 89 = .ok (.iload_n 1, 1) := by decide +kernel
theorem dX8_at_90 : decode cX8_at 90 = .ok (.iaload, 1) := by decide +kernel
theorem dX8_at_91 : decode cX8_at 91 = .ok (.ireturn, 1) := by decide +kernel
theorem dX8_at_92 : decode cX8_at 92 = .ok (.aload_n 0, 1) := by decide +kernel
theorem dX8_at_93 : decode cX8_at 93 = .ok (.getfield 19, 3) := by decide +kernel
theorem dX8_at_96 : decode cX8_at 96 = .ok (.iload_n 1, 1) := by decide +kernel
theorem dX8_at_97 : decode cX8_at 97 = .ok (.iconst 0, 1) := by decide +kernel
theorem dX8_at_98 : decode cX8_at 98 = .ok (.invokevirtual 142, 3) := by decide +kernel
theorem dX8_at_101 : decode cX8_at 101 = .ok (.invokestatic 146, 3) := by decide +kernel
theorem dX8_at_104 : decode cX8_at 104 = .ok (.ireturn, 1) := by decide +kernel
theorem dX8_at_105 : decode cX8_at 105 = .ok (.aload_n 0, 1) := by decide +kernel
theorem dX8_at_106 : decode cX8_at 106 = .ok (.getfield 19, 3) := by decide +kernel
theorem dX8_at_109 : decode cX8_at 109 = .ok (.iload_n 1, 1) := by decide +kernel
theorem dX8_at_110 : decode cX8_at 110 = .ok (.iconst 1, 1) := by decide +kernel
theorem dX8_at_111 : decode cX8_at 111 = .ok (.invokevirtual 142, 3) := by decide +kernel
theorem dX8_at_114 : decode cX8_at 114 = .ok (.invokestatic 146, 3) := by decide +kernel
theorem dX8_at_117 : decode cX8_at 117 = .ok (.ireturn, 1) := by decide +kernel
theorem dX8_at_118 : decode cX8_at 118 = .ok (.aload_n 0, 1) := by decide +kernel
theorem dX8_at_119 : decode cX8_at 119 = .ok (.getfield 19, 3) := by decide +kernel
theorem dX8_at_122 : decode cX8_at 122 = .ok (.iload_n 1, 1) := by decide +kernel
theorem dX8_at_123 : decode cX8_at 123 = .ok (.iconst 3, 1) := by decide +kernel
theorem dX8_at_124 : decode cX8_at 124 = .ok (.invokevirtual 142, 3) := by decide +kernel
theorem dX8_at_127 : decode cX8_at 127 = .ok (.invokestatic 146, 3) := by decide +kernel
theorem dX8_at_130 : decode cX8_at 130 = .ok (.ireturn, 1) := by decide +kernel
theorem dX8_at_131 : decode cX8_at 131 = .ok (.aload_n 0, 1) := by decide +kernel
theorem dX8_at_132 : decode cX8_at 132 = .ok (.getfield 19, 3) := by decide +kernel
theorem dX8_at_135 : decode cX8_at 135 = .ok (.iload_n 1, 1) := by decide +kernel
theorem dX8_at_136 : decode cX8_at 136 = .ok (.iconst 2, 1) := by decide +kernel
theorem dX8_at_137 : decode cX8_at 137 = .ok (.invokevirtual 142, 3) := by decide +kernel
theorem dX8_at_140 : decode cX8_at 140 = .ok (.invokestatic 146, 3) := by decide +kernel
theorem dX8_at_143 : decode cX8_at 143 = .ok (.ireturn, 1) := by decide +kernel
theorem dX8_on_0 : decode cX8_on 0 = .ok (.iload_n 1, 1) := by decide +kernel
theorem dX8_on_1 : decode cX8_on 1 = .ok (.ifCond .lt 9, 3) := by decide +kernel
theorem dX8_on_4 : decode cX8_on 4 = .ok (.iload_n 1, 1) := by decide +kernel
theorem dX8_on_5 : decode cX8_on 5 = .ok (.bipush 16, 2) := by decide +kernel
theorem dX8_on_7 : decode cX8_on 7 = .ok (.if_icmp .lt 5, 3) := by decide +kernel
theorem dX8_on_10 : decode cX8_on 10 = .ok (.iconst (-1), 1) := by decide +kernel
theorem dX8_on_11 : decode cX8_on 11 = .ok (.ireturn, 1) := by decide +kernel
theorem dX8_on_12 : decode cX8_on 12 = .ok (.aload_n 0, 1) := by decide +kernel
theorem dX8_on_13 : decode cX8_on 13 = .ok (.getfield 19, 3) := by decide +kernel
theorem dX8_on_16 : decode cX8_on 16 = .ok (.aload_n 0, 1) := by decide +kernel
theorem dX8_on_17 : decode cX8_on 17 = .ok (.getfield 26, 3) := by decide +kernel
theorem dX8_on_20 : decode cX8_on 20 = .ok (.invokevirtual 89, 3) := by decide +kernel
theorem dX8_on_23 : decode cX8_on 23 = .ok (.invokevirtual 93, 3) := by decide +kernel
theorem dX8_on_26 : decode cX8_on 26 = .ok (.aload_n 0, 1) := by decide +kernel
theorem dX8_on_27 : decode cX8_on 27 = .ok (.getfield 19, 3) := by decide +kernel
theorem dX8_on_30 : decode cX8_on 30 = .ok (.getfield 149, 3) := by decide +kernel
theorem dX8_on_33 : decode cX8_on 33 = .ok (.iload_n 1, 1) := by decide +kernel
theorem dX8_on_34 : decode cX8_on 34 = .ok (.iaload, 1) := by decide +kernel
theorem dX8_on_35 : decode cX8_on 35 = .ok (.invokestatic 146, 3) := by decide +kernel
theorem dX8_on_38 : decode cX8_on 38 = .ok (.ireturn, 1) := by decide +kernel
theorem dX8_meant_0 : decode cX8_meant 0 = .ok (.iload_n 1, 1) := by decide +kernel
theorem dX8_meant_1 : decode cX8_meant 1 = .ok (.ifCond .lt 9, 3) := by decide +kernel
theorem dX8_meant_4 : decode cX8_meant 4 = .ok (.iload_n 1, 1) := by decide +kernel
theorem dX8_meant_5 : decode cX8_meant 5 = .ok (.bipush 9, 2) := by decide +kernel
theorem dX8_meant_7 : decode cX8_meant 7 = .ok (.if_icmp .lt 5, 3) := by decide +kernel
theorem dX8_meant_10 : decode cX8_meant 10 = .ok (.iconst (-1), 1) := by decide +kernel
theorem dX8_meant_11 : decode cX8_meant 11 = .ok (.ireturn, 1) := by decide +kernel
theorem dX8_meant_12 : decode cX8_meant 12 = .ok (.aload_n 0, 1) := by decide +kernel
theorem dX8_meant_13 : decode cX8_meant 13 = .ok (.getfield 19, 3) := by decide +kernel
theorem dX8_meant_16 : decode cX8_meant 16 = .ok (.aload_n 0, 1) := by decide +kernel
theorem dX8_meant_17 : decode cX8_meant 17 = .ok (.getfield 26, 3) := by decide +kernel
theorem dX8_meant_20 : decode cX8_meant 20 = .ok (.invokevirtual 89, 3) := by decide +kernel
theorem dX8_meant_23 : decode cX8_meant 23 = .ok (.invokevirtual 93, 3) := by decide +kernel
theorem dX8_meant_26 : decode cX8_meant 26 = .ok (.aload_n 0, 1) := by decide +kernel
theorem dX8_meant_27 : decode cX8_meant 27 = .ok (.getfield 19, 3) := by decide +kernel
theorem dX8_meant_30 : decode cX8_meant 30 = .ok (.iload_n 1, 1) := by decide +kernel
theorem dX8_meant_31 : decode cX8_meant 31 = .ok (.invokevirtual 152, 3) := by decide +kernel
theorem dX8_meant_34 : decode cX8_meant 34 = .ok (.ireturn, 1) := by decide +kernel
theorem dX8_count_0 : decode cX8_count 0 = .ok (.aload_n 0, 1) := by decide +kernel
theorem dX8_count_1 : decode cX8_count 1 = .ok (.getfield 19, 3) := by decide +kernel
theorem dX8_count_4 : decode cX8_count 4 = .ok (.aload_n 0, 1) := by decide +kernel
theorem dX8_count_5 : decode cX8_count 5 = .ok (.getfield 26, 3) := by decide +kernel
theorem dX8_count_8 : decode cX8_count 8 = .ok (.invokevirtual 89, 3) := by decide +kernel
theorem dX8_count_11 : decode cX8_count 11 = .ok (.invokevirtual 93, 3) := by decide +kernel
theorem dX8_count_14 : decode cX8_count 14 = .ok (.iload_n 1, 1) := by decide +kernel
theorem dX8_count_15 : decode cX8_count 15 = .ok (.tableswitch 51 0 2 #[25, 34, 43], 25) := by decide +kernel
theorem dX8_count_40 : decode cX8_count 40 = .ok (.aload_n 0, 1) := by decide +kernel
theorem dX8_count_41 : decode cX8_count 41 = .ok (.getfield 19, 3) := by decide +kernel
theorem dX8_count_44 : decode cX8_count 44 = .ok (.iconst 0, 1) := by decide +kernel
theorem dX8_count_45 : decode cX8_count 45 = .ok (.invokevirtual 155, 3) := by decide +kernel
theorem dX8_count_48 : decode cX8_count 48 = .ok (.ireturn, 1) := by decide +kernel
theorem dX8_count_49 : decode cX8_count 49 = .ok (.aload_n 0, 1) := by decide +kernel
theorem dX8_count_50 : decode cX8_count 50 = .ok (.getfield 19, 3) := by decide +kernel
theorem dX8_count_53 : decode cX8_count 53 = .ok (.iconst 1, 1) := by decide +kernel
theorem dX8_count_54 : decode cX8_count 54 = .ok (.invokevirtual 155, 3) := by decide +kernel
theorem dX8_count_57 : decode cX8_count 57 = .ok (.ireturn, 1) := by decide +kernel
theorem dX8_count_58 : decode cX8_count 58 = .ok (.aload_n 0, 1) := by decide +kernel
theorem dX8_count_59 : decode cX8_count 59 = .ok (.getfield 19, 3) := by decide +kernel
theorem dX8_count_62 : decode cX8_count 62 = .ok (.invokevirtual 159, 3) := by decide +kernel
theorem dX8_count_65 : decode cX8_count 65 = .ok (.ireturn, 1) := by decide +kernel
theorem dX8_count_66 : decode cX8_count 66 = .ok (.iconst (-1), 1) := by decide +kernel
theorem dX8_count_67 : decode cX8_count 67 = .ok (.ireturn, 1) := by decide +kernel
theorem dX8_way_0 : decode cX8_way 0 = .ok (.iload_n 1, 1) := by decide +kernel
theorem dX8_way_1 : decode cX8_way 1 = .ok (.iconst (-1), 1) := by decide +kernel
theorem dX8_way_2 : decode cX8_way 2 = .ok (.if_icmp .ge 5, 3) := by decide +kernel
theorem dX8_way_5 : decode cX8_way 5 = .ok (.iconst (-1), 1) := by decide +kernel
theorem dX8_way_6 : decode cX8_way 6 = .ok (.ireturn, 1) := by decide +kernel
theorem dX8_way_7 : decode cX8_way 7 = .ok (.aload_n 0, 1) := by decide +kernel
theorem dX8_way_8 : decode cX8_way 8 = .ok (.getfield 49, 3) := by decide +kernel
theorem dX8_way_11 : decode cX8_way 11 = .ok (.getfield 162, 3) := by decide +kernel
theorem dX8_way_14 : decode cX8_way 14 = .ok (.aload_n 0, 1) := by decide +kernel
theorem dX8_way_15 : decode cX8_way 15 = .ok (.getfield 26, 3) := by decide +kernel
theorem dX8_way_18 : decode cX8_way 18 = .ok (.invokevirtual 89, 3) := by decide +kernel
theorem dX8_way_21 : decode cX8_way 21 = .ok (.lcmp, 1) := by decide +kernel
theorem dX8_way_22 : decode cX8_way 22 = .ok (.ifCond .eq 17, 3) := by decide +kernel
theorem dX8_way_25 : decode cX8_way 25 = .ok (.aload_n 0, 1) := by decide +kernel
theorem dX8_way_26 : decode cX8_way 26 = .ok (.getfield 49, 3) := by decide +kernel
theorem dX8_way_29 : decode cX8_way 29 = .ok (.aload_n 0, 1) := by decide +kernel
theorem dX8_way_30 : decode cX8_way 30 = .ok (.getfield 26, 3) := by decide +kernel
theorem dX8_way_33 : decode cX8_way 33 = .ok (.invokevirtual 89, 3) := by decide +kernel
theorem dX8_way_36 : decode cX8_way 36 = .ok (.invokevirtual 166, 3) := by decide +kernel
theorem dX8_way_39 : decode cX8_way 39 = .ok (.aload_n 0, 1) := by decide +kernel
theorem dX8_way_40 : decode cX8_way 40 = .ok (.getfield 49, 3) := by decide +kernel
theorem dX8_way_43 : decode cX8_way 43 = .ok (.getfield 169, 3) := by decide +kernel
theorem dX8_way_46 : decode cX8_way 46 = .ok (.ifCond .lt 8, 3) := by decide +kernel
theorem dX8_way_49 : decode cX8_way 49 = .ok (.iload_n 1, 1) := by decide +kernel
theorem dX8_way_50 : decode cX8_way 50 = .ok (.iconst (-1), 1) := by decide +kernel
theorem dX8_way_51 : decode cX8_way 51 = .ok (.if_icmp .ne 11, 3) := by decide +kernel
theorem dX8_way_54 : decode cX8_way 54 = .ok (.aload_n 0, 1) := by decide +kernel
theorem dX8_way_55 : decode cX8_way 55 = .ok (.getfield 49, 3) := by decide +kernel
theorem dX8_way_58 : decode cX8_way 58 = .ok (.getfield 169, 3) := by decide +kernel
theorem dX8_way_61 : decode cX8_way 61 = .ok (.ireturn, 1) := by decide +kernel
theorem dX8_way_62 : decode cX8_way 62 = .ok (.iload_n 1, 1) := by decide +kernel
theorem dX8_way_63 : decode cX8_way 63 = .ok (.aload_n 0, 1) := by decide +kernel
theorem dX8_way_64 : decode cX8_way 64 = .ok (.getfield 49, 3) := by decide +kernel
theorem dX8_way_67 : decode cX8_way 67 = .ok (.getfield 169, 3) := by decide +kernel
theorem dX8_way_70 : decode cX8_way 70 = .ok (.if_icmp .ge 14, 3) := by decide +kernel
theorem dX8_way_73 : decode cX8_way 73 = .ok (.aload_n 0, 1) := by decide +kernel
theorem dX8_way_74 : decode cX8_way 74 = .ok (.getfield 49, 3) := by decide +kernel
theorem dX8_way_77 : decode cX8_way 77 = .ok (.iload_n 1, 1) := by decide +kernel
theorem dX8_way_78 : decode cX8_way 78 = .ok (.invokevirtual 172, 3) := by decide +kernel
theorem dX8_way_81 : decode cX8_way 81 = .ok (.goto 5, 3) := by decide +kernel
theorem dX8_way_84 : decode cX8_way 84 = .ok (.bipush (-2), 2) := by decide +kernel
theorem dX8_way_86 : decode cX8_way 86 = .ok (.ireturn, 1) := by decide +kernel
theorem dX8_round_0 : decode cX8_round 0 = .ok (.aload_n 0, 1) := by decide +kernel
theorem dX8_round_1 : decode cX8_round 1 = .ok (.getfield 12, 3) := by decide +kernel
theorem dX8_round_4 : decode cX8_round 4 = .ok (.invokevirtual 72, 3) := by decide +kernel
theorem dX8_round_7 : decode cX8_round 7 = .ok (.istore_n 1, 1) := by decide +kernel
theorem dX8_round_8 : decode cX8_round 8 = .ok (.iload_n 1, 1) := by decide +kernel
theorem dX8_round_9 : decode cX8_round 9 = .ok (.iconst (-1), 1) := by decide +kernel
theorem dX8_round_10 : decode cX8_round 10 = .ok (.if_icmp .eq 8, 3) := by decide +kernel
theorem dX8_round_13 : decode cX8_round 13 = .ok (.bipush (-100), 2) := by decide +kernel
theorem dX8_round_15 : decode cX8_round 15 = .ok (.iload_n 1, 1) := by decide +kernel
theorem dX8_round_16 : decode cX8_round 16 = .ok (.isub, 1) := by decide +kernel
theorem dX8_round_17 : decode cX8_round 17 = .ok (.ireturn, 1) := by decide +kernel
theorem dX8_round_18 : decode cX8_round 18 = .ok (.aload_n 0, 1) := by decide +kernel
theorem dX8_round_19 : decode cX8_round 19 = .ok (.getfield 26, 3) := by decide +kernel
theorem dX8_round_22 : decode cX8_round 22 = .ok (.invokevirtual 89, 3) := by decide +kernel
theorem dX8_round_25 : decode cX8_round 25 = .ok (.lstore_n 2, 1) := by decide +kernel
theorem dX8_round_26 : decode cX8_round 26 = .ok (.aload_n 0, 1) := by decide +kernel
theorem dX8_round_27 : decode cX8_round 27 = .ok (.getfield 19, 3) := by decide +kernel
theorem dX8_round_30 : decode cX8_round 30 = .ok (.lload_n 2, 1) := by decide +kernel
theorem dX8_round_31 : decode cX8_round 31 = .ok (.invokevirtual 93, 3) := by decide +kernel
theorem dX8_round_34 : decode cX8_round 34 = .ok (.iconst 1, 1) := by decide +kernel
theorem dX8_round_35 : decode cX8_round 35 = .ok (.istore 4, 2) := by decide +kernel
theorem dX8_round_37 : decode cX8_round 37 = .ok (.iload 4, 2) := by decide +kernel
theorem dX8_round_39 : decode cX8_round 39 = .ok (.bipush 100, 2) := by decide +kernel
theorem dX8_round_41 : decode cX8_round 41 = .ok (.if_icmp .gt 34, 3) := by decide +kernel
theorem dX8_round_44 : decode cX8_round 44 = .ok (.aload_n 0, 1) := by decide +kernel
theorem dX8_round_45 : decode cX8_round 45 = .ok (.invokevirtual 173, 3) := by decide +kernel
theorem dX8_round_48 : decode cX8_round 48 = .ok (.ifCond .ne 6, 3) := by decide +kernel
theorem dX8_round_51 : decode cX8_round 51 = .ok (.bipush (-2), 2) := by decide +kernel
theorem dX8_round_53 : decode cX8_round 53 = .ok (.ireturn, 1) := by decide +kernel
theorem dX8_round_54 : decode cX8_round 54 = .ok (.aload_n 0, 1) := by decide +kernel
theorem dX8_round_55 : decode cX8_round 55 = .ok (.getfield 19, 3) := by decide +kernel
theorem dX8_round_58 : decode cX8_round 58 = .ok (.invokevirtual 176, 3) := by decide +kernel
theorem dX8_round_61 : decode cX8_round 61 = .ok (.lload_n 2, 1) := by decide +kernel
theorem dX8_round_62 : decode cX8_round 62 = .ok (.lcmp, 1) := by decide +kernel
theorem dX8_round_63 : decode cX8_round 63 = .ok (.ifCond .ne 6, 3) := by decide +kernel
theorem dX8_round_66 : decode cX8_round 66 = .ok (.iload 4, 2) := by decide +kernel
theorem dX8_round_68 : decode cX8_round 68 = .ok (.ireturn, 1) := by decide +kernel
theorem dX8_round_69 : decode cX8_round 69 = .ok (.iinc 4 1, 3) := by decide +kernel
theorem dX8_round_72 : decode cX8_round 72 = .ok (.goto (-35), 3) := by decide +kernel
theorem dX8_round_75 : decode cX8_round 75 = .ok (.bipush (-2), 2) := by decide +kernel
theorem dX8_round_77 : decode cX8_round 77 = .ok (.ireturn, 1) := by decide +kernel
theorem dX8_alike_0 : decode cX8_alike 0 = .ok (.iload_n 1, 1) := by decide +kernel
theorem dX8_alike_1 : decode cX8_alike 1 = .ok (.ifCond .lt 8, 3) := by decide +kernel
theorem dX8_alike_4 : decode cX8_alike 4 = .ok (.iload_n 1, 1) := by decide +kernel
theorem dX8_alike_5 : decode cX8_alike 5 = .ok (.iconst 1, 1) := by decide +kernel
theorem dX8_alike_6 : decode cX8_alike 6 = .ok (.if_icmp .le 5, 3) := by decide +kernel
theorem dX8_alike_9 : decode cX8_alike 9 = .ok (.iconst (-1), 1) := by decide +kernel
theorem dX8_alike_10 : decode cX8_alike 10 = .ok (.ireturn, 1) := by decide +kernel
theorem dX8_alike_11 : decode cX8_alike 11 = .ok (.aload_n 0, 1) := by decide +kernel
theorem dX8_alike_12 : decode cX8_alike 12 = .ok (.getfield 33, 3) := by decide +kernel
theorem dX8_alike_15 : decode cX8_alike 15 = .ok (.ifCond .ne 6, 3) := by decide +kernel
theorem dX8_alike_18 : decode cX8_alike 18 = .ok (.bipush (-5), 2) := by decide +kernel
theorem dX8_alike_20 : decode cX8_alike 20 = .ok (.ireturn, 1) := by decide +kernel
theorem dX8_alike_21 : decode cX8_alike 21 = .ok (.aload_n 0, 1) := by decide +kernel
theorem dX8_alike_22 : decode cX8_alike 22 = .ok (.getfield 26, 3) := by decide +kernel
theorem dX8_alike_25 : decode cX8_alike 25 = .ok (.invokevirtual 89, 3) := by decide +kernel
theorem dX8_alike_28 : decode cX8_alike 28 = .ok (.lstore_n 2, 1) := by decide +kernel
theorem dX8_alike_29 : decode cX8_alike 29 = .ok (.aload_n 0, 1) := by decide +kernel
theorem dX8_alike_30 : decode cX8_alike 30 = .ok (.getfield 30, 3) := by decide +kernel
theorem dX8_alike_33 : decode cX8_alike 33 = .ok (.invokevirtual 89, 3) := by decide +kernel
theorem dX8_alike_36 : decode cX8_alike 36 = .ok (.lstore 4, 2) := by decide +kernel
theorem dX8_alike_38 : decode cX8_alike 38 = .ok (.iconst 0, 1) := by decide +kernel
theorem dX8_alike_39 : decode cX8_alike 39 = .ok (.istore 6, 2) := by decide +kernel
theorem dX8_alike_41 : decode cX8_alike 41 = .ok (.iload 6, 2) := by decide +kernel
theorem dX8_alike_43 : decode cX8_alike 43 = .ok (.iconst 4, 1) := by decide +kernel
theorem dX8_alike_44 : decode cX8_alike 44 = .ok (.if_icmp .ge 35, 3) := by decide +kernel
theorem dX8_alike_47 : decode cX8_alike 47 = .ok (.lload 4, 2) := by decide +kernel
theorem dX8_alike_49 : decode cX8_alike 49 = .ok (.lload_n 2, 1) := by decide +kernel
theorem dX8_alike_50 : decode cX8_alike 50 = .ok (.lcmp, 1) := by decide +kernel
theorem dX8_alike_51 : decode cX8_alike 51 = .ok (.ifCond .ne 6, 3) := by decide +kernel
theorem dX8_alike_54 : decode cX8_alike 54 = .ok (.iload 6, 2) := by decide +kernel
theorem dX8_alike_56 : decode cX8_alike 56 = .ok (.ireturn, 1) := by decide +kernel
theorem dX8_alike_57 : decode cX8_alike 57 = .ok (.lload 4, 2) := by decide +kernel
theorem dX8_alike_59 : decode cX8_alike 59 = .ok (.iload_n 1, 1) := by decide +kernel
theorem dX8_alike_60 : decode cX8_alike 60 = .ok (.ifCond .ne 7, 3) := by decide +kernel
theorem dX8_alike_63 : decode cX8_alike 63 = .ok (.iconst 1, 1) := by decide +kernel
theorem dX8_alike_64 : decode cX8_alike 64 = .ok (.goto 4, 3) := by decide +kernel
theorem dX8_alike_67 : decode cX8_alike 67 = .ok (.iconst 0, 1) := by decide +kernel
theorem dX8_alike_68 : decode cX8_alike 68 = .ok (.invokestatic 179, 3) := by decide +kernel
theorem dX8_alike_71 : decode cX8_alike 71 = .ok (.lstore 4, 2) := by decide +kernel
theorem dX8_alike_73 : decode cX8_alike 73 = .ok (.iinc 6 1, 3) := by decide +kernel
theorem dX8_alike_76 : decode cX8_alike 76 = .ok (.goto (-35), 3) := by decide +kernel
theorem dX8_alike_79 : decode cX8_alike 79 = .ok (.bipush (-2), 2) := by decide +kernel
theorem dX8_alike_81 : decode cX8_alike 81 = .ok (.ireturn, 1) := by decide +kernel
theorem dX8_squares_0 : decode cX8_squares 0 = .ok (.iload_n 1, 1) := by decide +kernel
theorem dX8_squares_1 : decode cX8_squares 1 = .ok (.ifCond .lt 8, 3) := by decide +kernel
theorem dX8_squares_4 : decode cX8_squares 4 = .ok (.iload_n 1, 1) := by decide +kernel
theorem dX8_squares_5 : decode cX8_squares 5 = .ok (.iconst 2, 1) := by decide +kernel
theorem dX8_squares_6 : decode cX8_squares 6 = .ok (.if_icmp .le 5, 3) := by decide +kernel
theorem dX8_squares_9 : decode cX8_squares 9 = .ok (.iconst (-1), 1) := by decide +kernel
theorem dX8_squares_10 : decode cX8_squares 10 = .ok (.ireturn, 1) := by decide +kernel
theorem dX8_squares_11 : decode cX8_squares 11 = .ok (.aload_n 0, 1) := by decide +kernel
theorem dX8_squares_12 : decode cX8_squares 12 = .ok (.getfield 26, 3) := by decide +kernel
theorem dX8_squares_15 : decode cX8_squares 15 = .ok (.iload_n 1, 1) := by decide +kernel
theorem dX8_squares_16 : decode cX8_squares 16 = .ok (.invokevirtual 185, 3) := by decide +kernel
theorem dX8_squares_19 : decode cX8_squares 19 = .ok (.ireturn, 1) := by decide +kernel
theorem dX8_text_0 : decode cX8_text 0 = .ok (.iload_n 1, 1) := by decide +kernel
theorem dX8_text_1 : decode cX8_text 1 = .ok (.iconst (-1), 1) := by decide +kernel
theorem dX8_text_2 : decode cX8_text 2 = .ok (.if_icmp .ge 5, 3) := by decide +kernel
theorem dX8_text_5 : decode cX8_text 5 = .ok (.iconst (-1), 1) := by decide +kernel
theorem dX8_text_6 : decode cX8_text 6 = .ok (.ireturn, 1) := by decide +kernel
theorem dX8_text_7 : decode cX8_text 7 = .ok (.aload_n 0, 1) := by decide +kernel
theorem dX8_text_8 : decode cX8_text 8 = .ok (.getfield 56, 3) := by decide +kernel
theorem dX8_text_11 : decode cX8_text 11 = .ok (.aload_n 0, 1) := by decide +kernel
theorem dX8_text_12 : decode cX8_text 12 = .ok (.getfield 26, 3) := by decide +kernel
theorem dX8_text_15 : decode cX8_text 15 = .ok (.iload_n 1, 1) := by decide +kernel
theorem dX8_text_16 : decode cX8_text 16 = .ok (.invokevirtual 188, 3) := by decide +kernel
theorem dX8_text_19 : decode cX8_text 19 = .ok (.iload_n 1, 1) := by decide +kernel
theorem dX8_text_20 : decode cX8_text 20 = .ok (.iconst (-1), 1) := by decide +kernel
theorem dX8_text_21 : decode cX8_text 21 = .ok (.if_icmp .ne 11, 3) := by decide +kernel
theorem dX8_text_24 : decode cX8_text 24 = .ok (.aload_n 0, 1) := by decide +kernel
theorem dX8_text_25 : decode cX8_text 25 = .ok (.getfield 56, 3) := by decide +kernel
theorem dX8_text_28 : decode cX8_text 28 = .ok (.getfield 192, 3) := by decide +kernel
theorem dX8_text_31 : decode cX8_text 31 = .ok (.ireturn, 1) := by decide +kernel
theorem dX8_text_32 : decode cX8_text 32 = .ok (.iload_n 1, 1) := by decide +kernel
theorem dX8_text_33 : decode cX8_text 33 = .ok (.aload_n 0, 1) := by decide +kernel
theorem dX8_text_34 : decode cX8_text 34 = .ok (.getfield 56, 3) := by decide +kernel
theorem dX8_text_37 : decode cX8_text 37 = .ok (.getfield 192, 3) := by decide +kernel
theorem dX8_text_40 : decode cX8_text 40 = .ok (.if_icmp .ge 13, 3) := by decide +kernel
theorem dX8_text_43 : decode cX8_text 43 = .ok (.aload_n 0, 1) := by decide +kernel
theorem dX8_text_44 : decode cX8_text 44 = .ok (.getfield 56, 3) := by decide +kernel
theorem dX8_text_47 : decode cX8_text 47 = .ok (.getfield 193, 3) := by decide +kernel
theorem dX8_text_50 : decode cX8_text 50 = .ok (.goto 5, 3) := by decide +kernel
theorem dX8_text_53 : decode cX8_text 53 = .ok (.bipush (-2), 2) := by decide +kernel
theorem dX8_text_55 : decode cX8_text 55 = .ok (.ireturn, 1) := by decide +kernel
theorem dX8_picture_0 : decode cX8_picture 0 = .ok (.bipush 9, 2) := by decide +kernel
theorem dX8_picture_2 : decode cX8_picture 2 = .ok (.istore_n 2, 1) := by decide +kernel
theorem dX8_picture_3 : decode cX8_picture 3 = .ok (.iload_n 1, 1) := by decide +kernel
theorem dX8_picture_4 : decode cX8_picture 4 = .ok (.iconst (-1), 1) := by decide +kernel
theorem dX8_picture_5 : decode cX8_picture 5 = .ok (.if_icmp .ge 5, 3) := by decide +kernel
theorem dX8_picture_8 : decode cX8_picture 8 = .ok (.iconst (-1), 1) := by decide +kernel
theorem dX8_picture_9 : decode cX8_picture 9 = .ok (.ireturn, 1) := by decide +kernel
theorem dX8_picture_10 : decode cX8_picture 10 = .ok (.iload_n 1, 1) := by decide +kernel
theorem dX8_picture_11 : decode cX8_picture 11 = .ok (.iconst (-1), 1) := by decide +kernel
theorem dX8_picture_12 : decode cX8_picture 12 = .ok (.if_icmp .ne 7, 3) := by decide +kernel
theorem dX8_picture_15 : decode cX8_picture 15 = .ok (.iload_n 2, 1) := by decide +kernel
theorem dX8_picture_16 : decode cX8_picture 16 = .ok (.iconst 4, 1) := by decide +kernel
theorem dX8_picture_17 : decode cX8_picture 17 = .ok (.imul, 1) := by decide +kernel
theorem dX8_picture_18 : decode cX8_picture 18 = .ok (.ireturn, 1) := by decide +kernel
theorem dX8_picture_19 : decode cX8_picture 19 = .ok (.iload_n 1, 1) := by decide +kernel
theorem dX8_picture_20 : decode cX8_picture 20 = .ok (.iload_n 2, 1) := by decide +kernel
theorem dX8_picture_21 : decode cX8_picture 21 = .ok (.iconst 4, 1) := by decide +kernel
theorem dX8_picture_22 : decode cX8_picture 22 = .ok (.imul, 1) := by decide +kernel
theorem dX8_picture_23 : decode cX8_picture 23 = .ok (.if_icmp .lt 6, 3) := by decide +kernel
theorem dX8_picture_26 : decode cX8_picture 26 = .ok (.bipush (-2), 2) := by decide +kernel
theorem dX8_picture_28 : decode cX8_picture 28 = .ok (.ireturn, 1) := by decide +kernel
theorem dX8_picture_29 : decode cX8_picture 29 = .ok (.iload_n 1, 1) := by decide +kernel
theorem dX8_picture_30 : decode cX8_picture 30 = .ok (.iload_n 2, 1) := by decide +kernel
theorem dX8_picture_31 : decode cX8_picture 31 = .ok (.irem, 1) := by decide +kernel
theorem dX8_picture_32 : decode cX8_picture 32 = .ok (.istore_n 3, 1) := by decide +kernel
theorem dX8_picture_33 : decode cX8_picture 33 = .ok (.iload_n 3, 1) := by decide +kernel
theorem dX8_picture_34 : decode cX8_picture 34 = .ok (.bipush 8, 2) := by decide +kernel
theorem dX8_picture_36 : decode cX8_picture 36 = .ok (.if_icmp .ne 6, 3) := by decide +kernel
theorem dX8_picture_39 : decode cX8_picture 39 = .ok (.bipush 10, 2) := by decide +kernel
theorem dX8_picture_41 : decode cX8_picture 41 = .ok (.ireturn, 1) := by decide +kernel
theorem dX8_picture_42 : decode cX8_picture 42 = .ok (.aload_n 0, 1) := by decide +kernel
theorem dX8_picture_43 : decode cX8_picture 43 = .ok (.getfield 19, 3) := by decide +kernel
theorem dX8_picture_46 : decode cX8_picture 46 = .ok (.aload_n 0, 1) := by decide +kernel
theorem dX8_picture_47 : decode cX8_picture 47 = .ok (.getfield 26, 3) := by decide +kernel
theorem dX8_picture_50 : decode cX8_picture 50 = .ok (.invokevirtual 89, 3) := by decide +kernel
theorem dX8_picture_53 : decode cX8_picture 53 = .ok (.invokevirtual 93, 3) := by decide +kernel
theorem dX8_picture_56 : decode cX8_picture 56 = .ok (.aload_n 0, 1) := by decide +kernel
theorem dX8_picture_57 : decode cX8_picture 57 = .ok (.getfield 19, 3) := by decide +kernel
theorem dX8_picture_60 : decode cX8_picture 60 = .ok (.iconst 4, 1) := by decide +kernel
theorem dX8_picture_61 : decode cX8_picture 61 = .ok (.iconst 3, 1) := by decide +kernel
theorem dX8_picture_62 : decode cX8_picture 62 = .ok (.iload_n 1, 1) := by decide +kernel
theorem dX8_picture_63 : decode cX8_picture 63 = .ok (.iload_n 2, 1) := by decide +kernel
theorem dX8_picture_64 : decode cX8_picture 64 = .ok (.idiv, 1) := by decide +kernel
theorem dX8_picture_65 : decode cX8_picture 65 = .ok (.isub, 1) := by decide +kernel
theorem dX8_picture_66 : decode cX8_picture 66 = .ok (.imul, 1) := by decide +kernel
theorem dX8_picture_67 : decode cX8_picture 67 = .ok (.iload_n 3, 1) := by decide +kernel
theorem dX8_picture_68 : decode cX8_picture 68 = .ok (.iconst 2, 1) := by decide +kernel
theorem dX8_picture_69 : decode cX8_picture 69 = .ok (.idiv, 1) := by decide +kernel
theorem dX8_picture_70 : decode cX8_picture 70 = .ok (.iadd, 1) := by decide +kernel
theorem dX8_picture_71 : decode cX8_picture 71 = .ok (.iload_n 3, 1) := by decide +kernel
theorem dX8_picture_72 : decode cX8_picture 72 = .ok (.iconst 2, 1) := by decide +kernel
theorem dX8_picture_73 : decode cX8_picture 73 = .ok (.irem, 1) := by decide +kernel
theorem dX8_picture_74 : decode cX8_picture 74 = .ok (.ifCond .ne 7, 3) := by decide +kernel
theorem dX8_picture_77 : decode cX8_picture 77 = .ok (.iconst 1, 1) := by decide +kernel
theorem dX8_picture_78 : decode cX8_picture 78 = .ok (.goto 4, 3) := by decide +kernel
theorem dX8_picture_81 : decode cX8_picture 81 = .ok (.iconst 0, 1) := by decide +kernel
theorem dX8_picture_82 : decode cX8_picture 82 = .ok (.invokevirtual 196, 3) := by decide +kernel
theorem dX8_picture_85 : decode cX8_picture 85 = .ok (.ireturn, 1) := by decide +kernel
theorem dX8_call_0 : decode cX8_call 0 = .ok (.iload_n 1, 1) := by decide +kernel
theorem dX8_call_1 : decode cX8_call 1 = .ok (.iconst (-1), 1) := by decide +kernel
theorem dX8_call_2 : decode cX8_call 2 = .ok (.if_icmp .ge 5, 3) := by decide +kernel
theorem dX8_call_5 : decode cX8_call 5 = .ok (.iconst (-1), 1) := by decide +kernel
theorem dX8_call_6 : decode cX8_call 6 = .ok (.ireturn, 1) := by decide +kernel
theorem dX8_call_7 : decode cX8_call 7 = .ok (.iload_n 1, 1) := by decide +kernel
theorem dX8_call_8 : decode cX8_call 8 = .ok (.iconst (-1), 1) := by decide +kernel
theorem dX8_call_9 : decode cX8_call 9 = .ok (.if_icmp .ne 11, 3) := by decide +kernel
theorem dX8_call_12 : decode cX8_call 12 = .ok (.aload_n 0, 1) := by decide +kernel
theorem dX8_call_13 : decode cX8_call 13 = .ok (.getfield 26, 3) := by decide +kernel
theorem dX8_call_16 : decode cX8_call 16 = .ok (.getfield 76, 3) := by decide +kernel
theorem dX8_call_19 : decode cX8_call 19 = .ok (.ireturn, 1) := by decide +kernel
theorem dX8_call_20 : decode cX8_call 20 = .ok (.iload_n 1, 1) := by decide +kernel
theorem dX8_call_21 : decode cX8_call 21 = .ok (.aload_n 0, 1) := by decide +kernel
theorem dX8_call_22 : decode cX8_call 22 = .ok (.getfield 26, 3) := by decide +kernel
theorem dX8_call_25 : decode cX8_call 25 = .ok (.getfield 76, 3) := by decide +kernel
theorem dX8_call_28 : decode cX8_call 28 = .ok (.if_icmp .ge 14, 3) := by decide +kernel
theorem dX8_call_31 : decode cX8_call 31 = .ok (.aload_n 0, 1) := by decide +kernel
theorem dX8_call_32 : decode cX8_call 32 = .ok (.getfield 26, 3) := by decide +kernel
theorem dX8_call_35 : decode cX8_call 35 = .ok (.iload_n 1, 1) := by decide +kernel
theorem dX8_call_36 : decode cX8_call 36 = .ok (.invokevirtual 134, 3) := by decide +kernel
theorem dX8_call_39 : decode cX8_call 39 = .ok (.goto 5, 3) := by decide +kernel
theorem dX8_call_42 : decode cX8_call 42 = .ok (.bipush (-2), 2) := by decide +kernel
theorem dX8_call_44 : decode cX8_call 44 = .ok (.ireturn, 1) := by decide +kernel
theorem dX8_danced_0 : decode cX8_danced 0 = .ok (.iload_n 1, 1) := by decide +kernel
theorem dX8_danced_1 : decode cX8_danced 1 = .ok (.ifCond .lt 9, 3) := by decide +kernel
theorem dX8_danced_4 : decode cX8_danced 4 = .ok (.iload_n 1, 1) := by decide +kernel
theorem dX8_danced_5 : decode cX8_danced 5 = .ok (.bipush 12, 2) := by decide +kernel
theorem dX8_danced_7 : decode cX8_danced 7 = .ok (.if_icmp .lt 7, 3) := by decide +kernel
theorem dX8_danced_10 : decode cX8_danced 10 = .ok (.iconst (-1), 1) := by decide +kernel
theorem dX8_danced_11 : decode cX8_danced 11 = .ok (.goto 9, 3) := by decide +kernel
theorem dX8_danced_14 : decode cX8_danced 14 = .ok (.aload_n 0, 1) := by decide +kernel
theorem dX8_danced_15 : decode cX8_danced 15 = .ok (.getfield 60, 3) := by decide +kernel
theorem dX8_danced_18 : decode cX8_danced 18 = .ok (.iload_n 1, 1) := by decide +kernel
theorem dX8_danced_19 : decode cX8_danced 19 = .ok (.iaload, 1) := by decide +kernel
theorem dX8_danced_20 : decode cX8_danced 20 = .ok (.ireturn, 1) := by decide +kernel
theorem dX8_image_0 : decode cX8_image 0 = .ok (.aload_n 0, 1) := by decide +kernel
theorem dX8_image_1 : decode cX8_image 1 = .ok (.getfield 30, 3) := by decide +kernel
theorem dX8_image_4 : decode cX8_image 4 = .ok (.aload_n 0, 1) := by decide +kernel
theorem dX8_image_5 : decode cX8_image 5 = .ok (.getfield 26, 3) := by decide +kernel
theorem dX8_image_8 : decode cX8_image 8 = .ok (.invokevirtual 200, 3) := by decide +kernel
theorem dX8_image_11 : decode cX8_image 11 = .ok (.aload_n 0, 1) := by decide +kernel
theorem dX8_image_12 : decode cX8_image 12 = .ok (.iconst 1, 1) := by decide +kernel
theorem dX8_image_13 : decode cX8_image 13 = .ok (.putfield 33, 3) := by decide +kernel
theorem dX8_image_16 : decode cX8_image 16 = .ok (.aload_n 0, 1) := by decide +kernel
theorem dX8_image_17 : decode cX8_image 17 = .ok (.getfield 26, 3) := by decide +kernel
theorem dX8_image_20 : decode cX8_image 20 = .ok (.getfield 76, 3) := by decide +kernel
theorem dX8_image_23 : decode cX8_image 23 = .ok (.ireturn, 1) := by decide +kernel
theorem dX8_back_0 : decode cX8_back 0 = .ok (.aload_n 0, 1) := by decide +kernel
theorem dX8_back_1 : decode cX8_back 1 = .ok (.getfield 33, 3) := by decide +kernel
theorem dX8_back_4 : decode cX8_back 4 = .ok (.ifCond .ne 6, 3) := by decide +kernel
theorem dX8_back_7 : decode cX8_back 7 = .ok (.bipush (-5), 2) := by decide +kernel
theorem dX8_back_9 : decode cX8_back 9 = .ok (.ireturn, 1) := by decide +kernel
theorem dX8_back_10 : decode cX8_back 10 = .ok (.aload_n 0, 1) := by decide +kernel
theorem dX8_back_11 : decode cX8_back 11 = .ok (.getfield 26, 3) := by decide +kernel
theorem dX8_back_14 : decode cX8_back 14 = .ok (.aload_n 0, 1) := by decide +kernel
theorem dX8_back_15 : decode cX8_back 15 = .ok (.getfield 30, 3) := by decide +kernel
theorem dX8_back_18 : decode cX8_back 18 = .ok (.invokevirtual 200, 3) := by decide +kernel
theorem dX8_back_21 : decode cX8_back 21 = .ok (.aload_n 0, 1) := by decide +kernel
theorem dX8_back_22 : decode cX8_back 22 = .ok (.getfield 26, 3) := by decide +kernel
theorem dX8_back_25 : decode cX8_back 25 = .ok (.getfield 76, 3) := by decide +kernel
theorem dX8_back_28 : decode cX8_back 28 = .ok (.ireturn, 1) := by decide +kernel
theorem dX8_orNot_0 : decode cX8_orNot 0 = .ok (.iload_n 0, 1) := by decide +kernel
theorem dX8_orNot_1 : decode cX8_orNot 1 = .ok (.iconst (-1), 1) := by decide +kernel
theorem dX8_orNot_2 : decode cX8_orNot 2 = .ok (.if_icmp .ne 8, 3) := by decide +kernel
theorem dX8_orNot_5 : decode cX8_orNot 5 = .ok (.bipush (-2), 2) := by decide +kernel
theorem dX8_orNot_7 : decode cX8_orNot 7 = .ok (.goto 4, 3) := by decide +kernel
theorem dX8_orNot_10 : decode cX8_orNot 10 = .ok (.iload_n 0, 1) := by decide +kernel
theorem dX8_orNot_11 : decode cX8_orNot 11 = .ok (.ireturn, 1) := by decide +kernel
theorem dX8_tallyFigure_0 : decode cX8_tallyFigure 0 = .ok (.iload_n 1, 1) := by decide +kernel
theorem dX8_tallyFigure_1 : decode cX8_tallyFigure 1 = .ok (.bipush 100, 2) := by decide +kernel
theorem dX8_tallyFigure_3 : decode cX8_tallyFigure 3 = .ok (.irem, 1) := by decide +kernel
theorem dX8_tallyFigure_4 : decode cX8_tallyFigure 4 = .ok (.istore_n 2, 1) := by decide +kernel
theorem dX8_tallyFigure_5 : decode cX8_tallyFigure 5 = .ok (.iload_n 2, 1) := by decide +kernel
theorem dX8_tallyFigure_6 : decode cX8_tallyFigure 6 = .ok (.ifCond .lt 19, 3) := by decide +kernel
theorem dX8_tallyFigure_9 : decode cX8_tallyFigure 9 = .ok (.iload_n 2, 1) := by decide +kernel
theorem dX8_tallyFigure_10 : decode cX8_tallyFigure 10 = .ok (.bipush 12, 2) := by decide +kernel
theorem dX8_tallyFigure_12 : decode cX8_tallyFigure 12 = .ok (.if_icmp .ge 13, 3) := by decide +kernel
theorem dX8_tallyFigure_15 : decode cX8_tallyFigure 15 = .ok (.aload_n 0, 1) := by decide +kernel
theorem dX8_tallyFigure_16 : decode cX8_tallyFigure 16 = .ok (.getfield 60, 3) := by decide +kernel
theorem dX8_tallyFigure_19 : decode cX8_tallyFigure 19 = .ok (.iload_n 2, 1) := by decide +kernel
theorem dX8_tallyFigure_20 : decode cX8_tallyFigure 20 = .ok (.dup2, 1) := by decide +kernel
theorem dX8_tallyFigure_21 : decode cX8_tallyFigure 21 = .ok (.iaload, 1) := by decide +kernel
theorem dX8_tallyFigure_22 : decode cX8_tallyFigure 22 = .ok (.iconst 1, 1) := by decide +kernel
theorem dX8_tallyFigure_23 : decode cX8_tallyFigure 23 = .ok (.iadd, 1) := by decide +kernel
theorem dX8_tallyFigure_24 : decode cX8_tallyFigure 24 = .ok (.iastore, 1) := by decide +kernel
theorem dX8_tallyFigure_25 : decode cX8_tallyFigure 25 = .ok (.return_, 1) := by decide +kernel
theorem dX8_danceInThought_0 : decode cX8_danceInThought 0 = .ok (.iconst 0, 1) := by decide +kernel
theorem dX8_danceInThought_1 : decode cX8_danceInThought 1 = .ok (.istore_n 1, 1) := by decide +kernel
theorem dX8_danceInThought_2 : decode cX8_danceInThought 2 = .ok (.iload_n 1, 1) := by decide +kernel
theorem dX8_danceInThought_3 : decode cX8_danceInThought 3 = .ok (.aload_n 0, 1) := by decide +kernel
theorem dX8_danceInThought_4 : decode cX8_danceInThought 4 = .ok (.getfield 12, 3) := by decide +kernel
theorem dX8_danceInThought_7 : decode cX8_danceInThought 7 = .ok (.getfield 79, 3) := by decide +kernel
theorem dX8_danceInThought_10 : decode cX8_danceInThought 10 = .ok (.if_icmp .ge 43, 3) := by decide +kernel
theorem dX8_danceInThought_13 : decode cX8_danceInThought 13 = .ok (.aload_n 0, 1) := by decide +kernel
theorem dX8_danceInThought_14 : decode cX8_danceInThought 14 = .ok (.getfield 19, 3) := by decide +kernel
theorem dX8_danceInThought_17 : decode cX8_danceInThought 17 = .ok (.aload_n 0, 1) := by decide +kernel
theorem dX8_danceInThought_18 : decode cX8_danceInThought 18 = .ok (.getfield 12, 3) := by decide +kernel
theorem dX8_danceInThought_21 : decode cX8_danceInThought 21 = .ok (.iload_n 1, 1) := by decide +kernel
theorem dX8_danceInThought_22 : decode cX8_danceInThought 22 = .ok (.invokevirtual 85, 3) := by decide +kernel
theorem dX8_danceInThought_25 : decode cX8_danceInThought 25 = .ok (.invokevirtual 97, 3) := by decide +kernel
theorem dX8_danceInThought_28 : decode cX8_danceInThought 28 = .ok (.ifCond .ne 5, 3) := by decide +kernel
theorem dX8_danceInThought_31 : decode cX8_danceInThought 31 = .ok (.iconst 0, 1) := by decide +kernel
theorem dX8_danceInThought_32 : decode cX8_danceInThought 32 = .ok (.ireturn, 1) := by decide +kernel
theorem dX8_danceInThought_33 : decode cX8_danceInThought 33 = .ok (.aload_n 0, 1) := by decide +kernel
theorem dX8_danceInThought_34 : decode cX8_danceInThought 34 = .ok (.getfield 19, 3) := by decide +kernel
theorem dX8_danceInThought_37 : decode cX8_danceInThought 37 = .ok (.aload_n 0, 1) := by decide +kernel
theorem dX8_danceInThought_38 : decode cX8_danceInThought 38 = .ok (.getfield 19, 3) := by decide +kernel
theorem dX8_danceInThought_41 : decode cX8_danceInThought 41 = .ok (.invokevirtual 103, 3) := by decide +kernel
theorem dX8_danceInThought_44 : decode cX8_danceInThought 44 = .ok (.invokevirtual 93, 3) := by decide +kernel
theorem dX8_danceInThought_47 : decode cX8_danceInThought 47 = .ok (.iinc 1 1, 3) := by decide +kernel
theorem dX8_danceInThought_50 : decode cX8_danceInThought 50 = .ok (.goto (-48), 3) := by decide +kernel
theorem dX8_danceInThought_53 : decode cX8_danceInThought 53 = .ok (.iconst 1, 1) := by decide +kernel
theorem dX8_danceInThought_54 : decode cX8_danceInThought 54 = .ok (.ireturn, 1) := by decide +kernel
theorem dL_law_0 : decode cL_law 0 = .ok (.new 7, 3) := by decide +kernel
theorem dL_law_3 : decode cL_law 3 = .ok (.dup, 1) := by decide +kernel
theorem dL_law_4 : decode cL_law 4 = .ok (.invokespecial 9, 3) := by decide +kernel
theorem dL_law_7 : decode cL_law 7 = .ok (.astore_n 1, 1) := by decide +kernel
theorem dL_law_8 : decode cL_law 8 = .ok (.new 10, 3) := by decide +kernel
theorem dL_law_11 : decode cL_law 11 = .ok (.dup, 1) := by decide +kernel
theorem dL_law_12 : decode cL_law 12 = .ok (.invokespecial 12, 3) := by decide +kernel
theorem dL_law_15 : decode cL_law 15 = .ok (.astore_n 2, 1) := by decide +kernel
theorem dL_law_16 : decode cL_law 16 = .ok (.iconst 0, 1) := by decide +kernel
theorem dL_law_17 : decode cL_law 17 = .ok (.istore_n 3, 1) := by decide +kernel
theorem dL_law_18 : decode cL_law 18 = .ok (.iload_n 3, 1) := by decide +kernel
theorem dL_law_19 : decode cL_law 19 = .ok (.aload_n 0, 1) := by decide +kernel
theorem dL_law_20 : decode cL_law 20 = .ok (.arraylength, 1) := by decide +kernel
theorem dL_law_21 : decode cL_law 21 = .ok (.iconst 3, 1) := by decide +kernel
theorem dL_law_22 : decode cL_law 22 = .ok (.isub, 1) := by decide +kernel
theorem dL_law_23 : decode cL_law 23 = .ok (.if_icmp .gt 528, 3) := by decide +kernel
theorem dL_law_26 : decode cL_law 26 = .ok (.aload_n 0, 1) := by decide +kernel
theorem dL_law_27 : decode cL_law 27 = .ok (.iload_n 3, 1) := by decide +kernel
theorem dL_law_28 : decode cL_law 28 = .ok (.iaload, 1) := by decide +kernel
theorem dL_law_29 : decode cL_law 29 = .ok (.bipush 31, 2) := by decide +kernel
theorem dL_law_31 : decode cL_law 31 = .ok (.iand, 1) := by decide +kernel
theorem dL_law_32 : decode cL_law 32 = .ok (.tableswitch 513 0 20 #[100, 123, 136, 159, 172, 185, 198, 211, 244, 267, 290, 313, 336, 349, 372, 395, 418, 441, 464, 487, 500], 100) := by decide +kernel
theorem dL_law_132 : decode cL_law 132 = .ok (.aload_n 1, 1) := by decide +kernel
theorem dL_law_133 : decode cL_law 133 = .ok (.aload_n 0, 1) := by decide +kernel
theorem dL_law_134 : decode cL_law 134 = .ok (.iload_n 3, 1) := by decide +kernel
theorem dL_law_135 : decode cL_law 135 = .ok (.iconst 1, 1) := by decide +kernel
theorem dL_law_136 : decode cL_law 136 = .ok (.iadd, 1) := by decide +kernel
theorem dL_law_137 : decode cL_law 137 = .ok (.iaload, 1) := by decide +kernel
theorem dL_law_138 : decode cL_law 138 = .ok (.invokevirtual 13, 3) := by decide +kernel
theorem dL_law_141 : decode cL_law 141 = .ok (.aload_n 2, 1) := by decide +kernel
theorem dL_law_142 : decode cL_law 142 = .ok (.aload_n 0, 1) := by decide +kernel
theorem dL_law_143 : decode cL_law 143 = .ok (.iload_n 3, 1) := by decide +kernel
theorem dL_law_144 : decode cL_law 144 = .ok (.iconst 1, 1) := by decide +kernel
theorem dL_law_145 : decode cL_law 145 = .ok (.iadd, 1) := by decide +kernel
theorem dL_law_146 : decode cL_law 146 = .ok (.iaload, 1) := by decide +kernel
theorem dL_law_147 : decode cL_law 147 = .ok (.invokevirtual 17, 3) := by decide +kernel
theorem dL_law_150 : decode cL_law 150 = .ok (.if_icmp .eq 395, 3) := by decide +kernel
theorem dL_law_153 : decode cL_law 153 = .ok (.iconst 0, 1) := by decide +kernel
theorem dL_law_154 : decode cL_law 154 = .ok (.ireturn, 1) := by decide +kernel
theorem dL_law_155 : decode cL_law 155 = .ok (.aload_n 1, 1) := by decide +kernel
theorem dL_law_156 : decode cL_law 156 = .ok (.invokevirtual 18, 3) := by decide +kernel
theorem dL_law_159 : decode cL_law 159 = .ok (.aload_n 2, 1) := by decide +kernel
theorem dL_law_160 : decode cL_law 160 = .ok (.invokevirtual 22, 3) := by decide +kernel
theorem dL_law_163 : decode cL_law 163 = .ok (.if_icmp .eq 382, 3) := by decide +kernel
theorem dL_law_166 : decode cL_law 166 = .ok (.iconst 0, 1) := by decide +kernel
theorem dL_law_167 : decode cL_law 167 = .ok (.ireturn, 1) := by decide +kernel
theorem dL_law_168 : decode cL_law 168 = .ok (.aload_n 1, 1) := by decide +kernel
theorem dL_law_169 : decode cL_law 169 = .ok (.aload_n 0, 1) := by decide +kernel
theorem dL_law_170 : decode cL_law 170 = .ok (.iload_n 3, 1) := by decide +kernel
theorem dL_law_171 : decode cL_law 171 = .ok (.iconst 1, 1) := by decide +kernel
theorem dL_law_172 : decode cL_law 172 = .ok (.iadd, 1) := by decide +kernel
theorem dL_law_173 : decode cL_law 173 = .ok (.iaload, 1) := by decide +kernel
theorem dL_law_174 : decode cL_law 174 = .ok (.invokevirtual 23, 3) := by decide +kernel
theorem dL_law_177 : decode cL_law 177 = .ok (.aload_n 2, 1) := by decide +kernel
theorem dL_law_178 : decode cL_law 178 = .ok (.aload_n 0, 1) := by decide +kernel
theorem dL_law_179 : decode cL_law 179 = .ok (.iload_n 3, 1) := by decide +kernel
theorem dL_law_180 : decode cL_law 180 = .ok (.iconst 1, 1) := by decide +kernel
theorem dL_law_181 : decode cL_law 181 = .ok (.iadd, 1) := by decide +kernel
theorem dL_law_182 : decode cL_law 182 = .ok (.iaload, 1) := by decide +kernel
theorem dL_law_183 : decode cL_law 183 = .ok (.invokevirtual 26, 3) := by decide +kernel
theorem dL_law_186 : decode cL_law 186 = .ok (.if_icmp .eq 359, 3) := by decide +kernel
theorem dL_law_189 : decode cL_law 189 = .ok (.iconst 0, 1) := by decide +kernel
theorem dL_law_190 : decode cL_law 190 = .ok (.ireturn, 1) := by decide +kernel
theorem dL_law_191 : decode cL_law 191 = .ok (.aload_n 1, 1) := by decide +kernel
theorem dL_law_192 : decode cL_law 192 = .ok (.invokevirtual 27, 3) := by decide +kernel
theorem dL_law_195 : decode cL_law 195 = .ok (.aload_n 2, 1) := by decide +kernel
theorem dL_law_196 : decode cL_law 196 = .ok (.invokevirtual 30, 3) := by decide +kernel
theorem dL_law_199 : decode cL_law 199 = .ok (.if_icmp .eq 346, 3) := by decide +kernel
theorem dL_law_202 : decode cL_law 202 = .ok (.iconst 0, 1) := by decide +kernel
theorem dL_law_203 : decode cL_law 203 = .ok (.ireturn, 1) := by decide +kernel
theorem dL_law_204 : decode cL_law 204 = .ok (.aload_n 1, 1) := by decide +kernel
theorem dL_law_205 : decode cL_law 205 = .ok (.invokevirtual 31, 3) := by decide +kernel
theorem dL_law_208 : decode cL_law 208 = .ok (.aload_n 2, 1) := by decide +kernel
theorem dL_law_209 : decode cL_law 209 = .ok (.invokevirtual 34, 3) := by decide +kernel
theorem dL_law_212 : decode cL_law 212 = .ok (.if_icmp .eq 333, 3) := by decide +kernel
theorem dL_law_215 : decode cL_law 215 = .ok (.iconst 0, 1) := by decide +kernel
theorem dL_law_216 : decode cL_law 216 = .ok (.ireturn, 1) := by decide +kernel
theorem dL_law_217 : decode cL_law 217 = .ok (.aload_n 1, 1) := by decide +kernel
theorem dL_law_218 : decode cL_law 218 = .ok (.invokevirtual 35, 3) := by decide +kernel
theorem dL_law_221 : decode cL_law 221 = .ok (.aload_n 2, 1) := by decide +kernel
theorem dL_law_222 : decode cL_law 222 = .ok (.invokevirtual 38, 3) := by decide +kernel
theorem dL_law_225 : decode cL_law 225 = .ok (.if_icmp .eq 320, 3) := by decide +kernel
theorem dL_law_228 : decode cL_law 228 = .ok (.iconst 0, 1) := by decide +kernel
theorem dL_law_229 : decode cL_law 229 = .ok (.ireturn, 1) := by decide +kernel
theorem dL_law_230 : decode cL_law 230 = .ok (.aload_n 1, 1) := by decide +kernel
theorem dL_law_231 : decode cL_law 231 = .ok (.invokevirtual 39, 3) := by decide +kernel
theorem dL_law_234 : decode cL_law 234 = .ok (.aload_n 2, 1) := by decide +kernel
theorem dL_law_235 : decode cL_law 235 = .ok (.invokevirtual 42, 3) := by decide +kernel
theorem dL_law_238 : decode cL_law 238 = .ok (.if_icmp .eq 307, 3) := by decide +kernel
theorem dL_law_241 : decode cL_law 241 = .ok (.iconst 0, 1) := by decide +kernel
theorem dL_law_242 : decode cL_law 242 = .ok (.ireturn, 1) := by decide +kernel
theorem dL_law_243 : decode cL_law 243 = .ok (.aload_n 1, 1) := by decide +kernel
theorem dL_law_244 : decode cL_law 244 = .ok (.aload_n 0, 1) := by decide +kernel
theorem dL_law_245 : decode cL_law 245 = .ok (.iload_n 3, 1) := by decide +kernel
theorem dL_law_246 : decode cL_law 246 = .ok (.iconst 1, 1) := by decide +kernel
theorem dL_law_247 : decode cL_law 247 = .ok (.iadd, 1) := by decide +kernel
theorem dL_law_248 : decode cL_law 248 = .ok (.iaload, 1) := by decide +kernel
theorem dL_law_249 : decode cL_law 249 = .ok (.aload_n 0, 1) := by decide +kernel
theorem dL_law_250 : decode cL_law 250 = .ok (.iload_n 3, 1) := by decide +kernel
theorem dL_law_251 : decode cL_law 251 = .ok (.iconst 2, 1) := by decide +kernel
theorem dL_law_252 : decode cL_law 252 = .ok (.iadd, 1) := by decide +kernel
theorem dL_law_253 : decode cL_law 253 = .ok (.iaload, 1) := by decide +kernel
theorem dL_law_254 : decode cL_law 254 = .ok (.invokevirtual 43, 3) := by decide +kernel
theorem dL_law_257 : decode cL_law 257 = .ok (.aload_n 2, 1) := by decide +kernel
theorem dL_law_258 : decode cL_law 258 = .ok (.aload_n 0, 1) := by decide +kernel
theorem dL_law_259 : decode cL_law 259 = .ok (.iload_n 3, 1) := by decide +kernel
theorem dL_law_260 : decode cL_law 260 = .ok (.iconst 1, 1) := by decide +kernel
theorem dL_law_261 : decode cL_law 261 = .ok (.iadd, 1) := by decide +kernel
theorem dL_law_262 : decode cL_law 262 = .ok (.iaload, 1) := by decide +kernel
theorem dL_law_263 : decode cL_law 263 = .ok (.aload_n 0, 1) := by decide +kernel
theorem dL_law_264 : decode cL_law 264 = .ok (.iload_n 3, 1) := by decide +kernel
theorem dL_law_265 : decode cL_law 265 = .ok (.iconst 2, 1) := by decide +kernel
theorem dL_law_266 : decode cL_law 266 = .ok (.iadd, 1) := by decide +kernel
theorem dL_law_267 : decode cL_law 267 = .ok (.iaload, 1) := by decide +kernel
theorem dL_law_268 : decode cL_law 268 = .ok (.invokevirtual 47, 3) := by decide +kernel
theorem dL_law_271 : decode cL_law 271 = .ok (.if_icmp .eq 274, 3) := by decide +kernel
theorem dL_law_274 : decode cL_law 274 = .ok (.iconst 0, 1) := by decide +kernel
theorem dL_law_275 : decode cL_law 275 = .ok (.ireturn, 1) := by decide +kernel
theorem dL_law_276 : decode cL_law 276 = .ok (.aload_n 1, 1) := by decide +kernel
theorem dL_law_277 : decode cL_law 277 = .ok (.aload_n 0, 1) := by decide +kernel
theorem dL_law_278 : decode cL_law 278 = .ok (.iload_n 3, 1) := by decide +kernel
theorem dL_law_279 : decode cL_law 279 = .ok (.iconst 1, 1) := by decide +kernel
theorem dL_law_280 : decode cL_law 280 = .ok (.iadd, 1) := by decide +kernel
theorem dL_law_281 : decode cL_law 281 = .ok (.iaload, 1) := by decide +kernel
theorem dL_law_282 : decode cL_law 282 = .ok (.invokevirtual 48, 3) := by decide +kernel
theorem dL_law_285 : decode cL_law 285 = .ok (.aload_n 2, 1) := by decide +kernel
theorem dL_law_286 : decode cL_law 286 = .ok (.aload_n 0, 1) := by decide +kernel
theorem dL_law_287 : decode cL_law 287 = .ok (.iload_n 3, 1) := by decide +kernel
theorem dL_law_288 : decode cL_law 288 = .ok (.iconst 1, 1) := by decide +kernel
theorem dL_law_289 : decode cL_law 289 = .ok (.iadd, 1) := by decide +kernel
theorem dL_law_290 : decode cL_law 290 = .ok (.iaload, 1) := by decide +kernel
theorem dL_law_291 : decode cL_law 291 = .ok (.invokevirtual 51, 3) := by decide +kernel
theorem dL_law_294 : decode cL_law 294 = .ok (.if_icmp .eq 251, 3) := by decide +kernel
theorem dL_law_297 : decode cL_law 297 = .ok (.iconst 0, 1) := by decide +kernel
theorem dL_law_298 : decode cL_law 298 = .ok (.ireturn, 1) := by decide +kernel
theorem dL_law_299 : decode cL_law 299 = .ok (.aload_n 1, 1) := by decide +kernel
theorem dL_law_300 : decode cL_law 300 = .ok (.aload_n 0, 1) := by decide +kernel
theorem dL_law_301 : decode cL_law 301 = .ok (.iload_n 3, 1) := by decide +kernel
theorem dL_law_302 : decode cL_law 302 = .ok (.iconst 1, 1) := by decide +kernel
theorem dL_law_303 : decode cL_law 303 = .ok (.iadd, 1) := by decide +kernel
theorem dL_law_304 : decode cL_law 304 = .ok (.iaload, 1) := by decide +kernel
theorem dL_law_305 : decode cL_law 305 = .ok (.invokevirtual 52, 3) := by decide +kernel
theorem dL_law_308 : decode cL_law 308 = .ok (.aload_n 2, 1) := by decide +kernel
theorem dL_law_309 : decode cL_law 309 = .ok (.aload_n 0, 1) := by decide +kernel
theorem dL_law_310 : decode cL_law 310 = .ok (.iload_n 3, 1) := by decide +kernel
theorem dL_law_311 : decode cL_law 311 = .ok (.iconst 1, 1) := by decide +kernel
theorem dL_law_312 : decode cL_law 312 = .ok (.iadd, 1) := by decide +kernel
theorem dL_law_313 : decode cL_law 313 = .ok (.iaload, 1) := by decide +kernel
theorem dL_law_314 : decode cL_law 314 = .ok (.invokevirtual 55, 3) := by decide +kernel
theorem dL_law_317 : decode cL_law 317 = .ok (.if_icmp .eq 228, 3) := by decide +kernel
theorem dL_law_320 : decode cL_law 320 = .ok (.iconst 0, 1) := by decide +kernel
theorem dL_law_321 : decode cL_law 321 = .ok (.ireturn, 1) := by decide +kernel
theorem dL_law_322 : decode cL_law 322 = .ok (.aload_n 1, 1) := by decide +kernel
theorem dL_law_323 : decode cL_law 323 = .ok (.aload_n 0, 1) := by decide +kernel
theorem dL_law_324 : decode cL_law 324 = .ok (.iload_n 3, 1) := by decide +kernel
theorem dL_law_325 : decode cL_law 325 = .ok (.iconst 1, 1) := by decide +kernel
theorem dL_law_326 : decode cL_law 326 = .ok (.iadd, 1) := by decide +kernel
theorem dL_law_327 : decode cL_law 327 = .ok (.iaload, 1) := by decide +kernel
theorem dL_law_328 : decode cL_law 328 = .ok (.invokevirtual 56, 3) := by decide +kernel
theorem dL_law_331 : decode cL_law 331 = .ok (.aload_n 2, 1) := by decide +kernel
theorem dL_law_332 : decode cL_law 332 = .ok (.aload_n 0, 1) := by decide +kernel
theorem dL_law_333 : decode cL_law 333 = .ok (.iload_n 3, 1) := by decide +kernel
theorem dL_law_334 : decode cL_law 334 = .ok (.iconst 1, 1) := by decide +kernel
theorem dL_law_335 : decode cL_law 335 = .ok (.iadd, 1) := by decide +kernel
theorem dL_law_336 : decode cL_law 336 = .ok (.iaload, 1) := by decide +kernel
theorem dL_law_337 : decode cL_law 337 = .ok (.invokevirtual 59, 3) := by decide +kernel
theorem dL_law_340 : decode cL_law 340 = .ok (.if_icmp .eq 205, 3) := by decide +kernel
theorem dL_law_343 : decode cL_law 343 = .ok (.iconst 0, 1) := by decide +kernel
theorem dL_law_344 : decode cL_law 344 = .ok (.ireturn, 1) := by decide +kernel
theorem dL_law_345 : decode cL_law 345 = .ok (.aload_n 1, 1) := by decide +kernel
theorem dL_law_346 : decode cL_law 346 = .ok (.aload_n 0, 1) := by decide +kernel
theorem dL_law_347 : decode cL_law 347 = .ok (.iload_n 3, 1) := by decide +kernel
theorem dL_law_348 : decode cL_law 348 = .ok (.iconst 1, 1) := by decide +kernel
theorem dL_law_349 : decode cL_law 349 = .ok (.iadd, 1) := by decide +kernel
theorem dL_law_350 : decode cL_law 350 = .ok (.iaload, 1) := by decide +kernel
theorem dL_law_351 : decode cL_law 351 = .ok (.invokevirtual 60, 3) := by decide +kernel
theorem dL_law_354 : decode cL_law 354 = .ok (.aload_n 2, 1) := by decide +kernel
theorem dL_law_355 : decode cL_law 355 = .ok (.aload_n 0, 1) := by decide +kernel
theorem dL_law_356 : decode cL_law 356 = .ok (.iload_n 3, 1) := by decide +kernel
theorem dL_law_357 : decode cL_law 357 = .ok (.iconst 1, 1) := by decide +kernel
theorem dL_law_358 : decode cL_law 358 = .ok (.iadd, 1) := by decide +kernel
theorem dL_law_359 : decode cL_law 359 = .ok (.iaload, 1) := by decide +kernel
theorem dL_law_360 : decode cL_law 360 = .ok (.invokevirtual 63, 3) := by decide +kernel
theorem dL_law_363 : decode cL_law 363 = .ok (.if_icmp .eq 182, 3) := by decide +kernel
theorem dL_law_366 : decode cL_law 366 = .ok (.iconst 0, 1) := by decide +kernel
theorem dL_law_367 : decode cL_law 367 = .ok (.ireturn, 1) := by decide +kernel
theorem dL_law_368 : decode cL_law 368 = .ok (.aload_n 1, 1) := by decide +kernel
theorem dL_law_369 : decode cL_law 369 = .ok (.invokevirtual 64, 3) := by decide +kernel
theorem dL_law_372 : decode cL_law 372 = .ok (.aload_n 2, 1) := by decide +kernel
theorem dL_law_373 : decode cL_law 373 = .ok (.invokevirtual 67, 3) := by decide +kernel
theorem dL_law_376 : decode cL_law 376 = .ok (.if_icmp .eq 169, 3) := by decide +kernel
theorem dL_law_379 : decode cL_law 379 = .ok (.iconst 0, 1) := by decide +kernel
theorem dL_law_380 : decode cL_law 380 = .ok (.ireturn, 1) := by decide +kernel
theorem dL_law_381 : decode cL_law 381 = .ok (.aload_n 1, 1) := by decide +kernel
theorem dL_law_382 : decode cL_law 382 = .ok (.aload_n 0, 1) := by decide +kernel
theorem dL_law_383 : decode cL_law 383 = .ok (.iload_n 3, 1) := by decide +kernel
theorem dL_law_384 : decode cL_law 384 = .ok (.iconst 1, 1) := by decide +kernel
theorem dL_law_385 : decode cL_law 385 = .ok (.iadd, 1) := by decide +kernel
theorem dL_law_386 : decode cL_law 386 = .ok (.iaload, 1) := by decide +kernel
theorem dL_law_387 : decode cL_law 387 = .ok (.invokevirtual 68, 3) := by decide +kernel
theorem dL_law_390 : decode cL_law 390 = .ok (.aload_n 2, 1) := by decide +kernel
theorem dL_law_391 : decode cL_law 391 = .ok (.aload_n 0, 1) := by decide +kernel
theorem dL_law_392 : decode cL_law 392 = .ok (.iload_n 3, 1) := by decide +kernel
theorem dL_law_393 : decode cL_law 393 = .ok (.iconst 1, 1) := by decide +kernel
theorem dL_law_394 : decode cL_law 394 = .ok (.iadd, 1) := by decide +kernel
theorem dL_law_395 : decode cL_law 395 = .ok (.iaload, 1) := by decide +kernel
theorem dL_law_396 : decode cL_law 396 = .ok (.invokevirtual 71, 3) := by decide +kernel
theorem dL_law_399 : decode cL_law 399 = .ok (.if_icmp .eq 146, 3) := by decide +kernel
theorem dL_law_402 : decode cL_law 402 = .ok (.iconst 0, 1) := by decide +kernel
theorem dL_law_403 : decode cL_law 403 = .ok (.ireturn, 1) := by decide +kernel
theorem dL_law_404 : decode cL_law 404 = .ok (.aload_n 1, 1) := by decide +kernel
theorem dL_law_405 : decode cL_law 405 = .ok (.aload_n 0, 1) := by decide +kernel
theorem dL_law_406 : decode cL_law 406 = .ok (.iload_n 3, 1) := by decide +kernel
theorem dL_law_407 : decode cL_law 407 = .ok (.iconst 1, 1) := by decide +kernel
theorem dL_law_408 : decode cL_law 408 = .ok (.iadd, 1) := by decide +kernel
theorem dL_law_409 : decode cL_law 409 = .ok (.iaload, 1) := by decide +kernel
theorem dL_law_410 : decode cL_law 410 = .ok (.invokevirtual 72, 3) := by decide +kernel
theorem dL_law_413 : decode cL_law 413 = .ok (.aload_n 2, 1) := by decide +kernel
theorem dL_law_414 : decode cL_law 414 = .ok (.aload_n 0, 1) := by decide +kernel
theorem dL_law_415 : decode cL_law 415 = .ok (.iload_n 3, 1) := by decide +kernel
theorem dL_law_416 : decode cL_law 416 = .ok (.iconst 1, 1) := by decide +kernel
theorem dL_law_417 : decode cL_law 417 = .ok (.iadd, 1) := by decide +kernel
theorem dL_law_418 : decode cL_law 418 = .ok (.iaload, 1) := by decide +kernel
theorem dL_law_419 : decode cL_law 419 = .ok (.invokevirtual 75, 3) := by decide +kernel
theorem dL_law_422 : decode cL_law 422 = .ok (.if_icmp .eq 123, 3) := by decide +kernel
theorem dL_law_425 : decode cL_law 425 = .ok (.iconst 0, 1) := by decide +kernel
theorem dL_law_426 : decode cL_law 426 = .ok (.ireturn, 1) := by decide +kernel
theorem dL_law_427 : decode cL_law 427 = .ok (.aload_n 1, 1) := by decide +kernel
theorem dL_law_428 : decode cL_law 428 = .ok (.aload_n 0, 1) := by decide +kernel
theorem dL_law_429 : decode cL_law 429 = .ok (.iload_n 3, 1) := by decide +kernel
theorem dL_law_430 : decode cL_law 430 = .ok (.iconst 1, 1) := by decide +kernel
theorem dL_law_431 : decode cL_law 431 = .ok (.iadd, 1) := by decide +kernel
theorem dL_law_432 : decode cL_law 432 = .ok (.iaload, 1) := by decide +kernel
theorem dL_law_433 : decode cL_law 433 = .ok (.invokevirtual 76, 3) := by decide +kernel
theorem dL_law_436 : decode cL_law 436 = .ok (.aload_n 2, 1) := by decide +kernel
theorem dL_law_437 : decode cL_law 437 = .ok (.aload_n 0, 1) := by decide +kernel
theorem dL_law_438 : decode cL_law 438 = .ok (.iload_n 3, 1) := by decide +kernel
theorem dL_law_439 : decode cL_law 439 = .ok (.iconst 1, 1) := by decide +kernel
theorem dL_law_440 : decode cL_law 440 = .ok (.iadd, 1) := by decide +kernel
theorem dL_law_441 : decode cL_law 441 = .ok (.iaload, 1) := by decide +kernel
theorem dL_law_442 : decode cL_law 442 = .ok (.invokevirtual 79, 3) := by decide +kernel
theorem dL_law_445 : decode cL_law 445 = .ok (.if_icmp .eq 100, 3) := by decide +kernel
theorem dL_law_448 : decode cL_law 448 = .ok (.iconst 0, 1) := by decide +kernel
theorem dL_law_449 : decode cL_law 449 = .ok (.ireturn, 1) := by decide +kernel
theorem dL_law_450 : decode cL_law 450 = .ok (.aload_n 1, 1) := by decide +kernel
theorem dL_law_451 : decode cL_law 451 = .ok (.aload_n 0, 1) := by decide +kernel
theorem dL_law_452 : decode cL_law 452 = .ok (.iload_n 3, 1) := by decide +kernel
theorem dL_law_453 : decode cL_law 453 = .ok (.iconst 1, 1) := by decide +kernel
theorem dL_law_454 : decode cL_law 454 = .ok (.iadd, 1) := by decide +kernel
theorem dL_law_455 : decode cL_law 455 = .ok (.iaload, 1) := by decide +kernel
theorem dL_law_456 : decode cL_law 456 = .ok (.invokevirtual 80, 3) := by decide +kernel
theorem dL_law_459 : decode cL_law 459 = .ok (.aload_n 2, 1) := by decide +kernel
theorem dL_law_460 : decode cL_law 460 = .ok (.aload_n 0, 1) := by decide +kernel
theorem dL_law_461 : decode cL_law 461 = .ok (.iload_n 3, 1) := by decide +kernel
theorem dL_law_462 : decode cL_law 462 = .ok (.iconst 1, 1) := by decide +kernel
theorem dL_law_463 : decode cL_law 463 = .ok (.iadd, 1) := by decide +kernel
theorem dL_law_464 : decode cL_law 464 = .ok (.iaload, 1) := by decide +kernel
theorem dL_law_465 : decode cL_law 465 = .ok (.invokevirtual 83, 3) := by decide +kernel
theorem dL_law_468 : decode cL_law 468 = .ok (.if_icmp .eq 77, 3) := by decide +kernel
theorem dL_law_471 : decode cL_law 471 = .ok (.iconst 0, 1) := by decide +kernel
theorem dL_law_472 : decode cL_law 472 = .ok (.ireturn, 1) := by decide +kernel
theorem dL_law_473 : decode cL_law 473 = .ok (.aload_n 1, 1) := by decide +kernel
theorem dL_law_474 : decode cL_law 474 = .ok (.aload_n 0, 1) := by decide +kernel
theorem dL_law_475 : decode cL_law 475 = .ok (.iload_n 3, 1) := by decide +kernel
theorem dL_law_476 : decode cL_law 476 = .ok (.iconst 1, 1) := by decide +kernel
theorem dL_law_477 : decode cL_law 477 = .ok (.iadd, 1) := by decide +kernel
theorem dL_law_478 : decode cL_law 478 = .ok (.iaload, 1) := by decide +kernel
theorem dL_law_479 : decode cL_law 479 = .ok (.invokevirtual 84, 3) := by decide +kernel
theorem dL_law_482 : decode cL_law 482 = .ok (.aload_n 2, 1) := by decide +kernel
theorem dL_law_483 : decode cL_law 483 = .ok (.aload_n 0, 1) := by decide +kernel
theorem dL_law_484 : decode cL_law 484 = .ok (.iload_n 3, 1) := by decide +kernel
theorem dL_law_485 : decode cL_law 485 = .ok (.iconst 1, 1) := by decide +kernel
theorem dL_law_486 : decode cL_law 486 = .ok (.iadd, 1) := by decide +kernel
theorem dL_law_487 : decode cL_law 487 = .ok (.iaload, 1) := by decide +kernel
theorem dL_law_488 : decode cL_law 488 = .ok (.invokevirtual 87, 3) := by decide +kernel
theorem dL_law_491 : decode cL_law 491 = .ok (.if_icmp .eq 54, 3) := by decide +kernel
theorem dL_law_494 : decode cL_law 494 = .ok (.iconst 0, 1) := by decide +kernel
theorem dL_law_495 : decode cL_law 495 = .ok (.ireturn, 1) := by decide +kernel
theorem dL_law_496 : decode cL_law 496 = .ok (.aload_n 1, 1) := by decide +kernel
theorem dL_law_497 : decode cL_law 497 = .ok (.aload_n 0, 1) := by decide +kernel
theorem dL_law_498 : decode cL_law 498 = .ok (.iload_n 3, 1) := by decide +kernel
theorem dL_law_499 : decode cL_law 499 = .ok (.iconst 1, 1) := by decide +kernel
theorem dL_law_500 : decode cL_law 500 = .ok (.iadd, 1) := by decide +kernel
theorem dL_law_501 : decode cL_law 501 = .ok (.iaload, 1) := by decide +kernel
theorem dL_law_502 : decode cL_law 502 = .ok (.invokevirtual 88, 3) := by decide +kernel
theorem dL_law_505 : decode cL_law 505 = .ok (.aload_n 2, 1) := by decide +kernel
theorem dL_law_506 : decode cL_law 506 = .ok (.aload_n 0, 1) := by decide +kernel
theorem dL_law_507 : decode cL_law 507 = .ok (.iload_n 3, 1) := by decide +kernel
theorem dL_law_508 : decode cL_law 508 = .ok (.iconst 1, 1) := by decide +kernel
theorem dL_law_509 : decode cL_law 509 = .ok (.iadd, 1) := by decide +kernel
theorem dL_law_510 : decode cL_law 510 = .ok (.iaload, 1) := by decide +kernel
theorem dL_law_511 : decode cL_law 511 = .ok (.invokevirtual 91, 3) := by decide +kernel
theorem dL_law_514 : decode cL_law 514 = .ok (.if_icmp .eq 31, 3) := by decide +kernel
theorem dL_law_517 : decode cL_law 517 = .ok (.iconst 0, 1) := by decide +kernel
theorem dL_law_518 : decode cL_law 518 = .ok (.ireturn, 1) := by decide +kernel
theorem dL_law_519 : decode cL_law 519 = .ok (.aload_n 1, 1) := by decide +kernel
theorem dL_law_520 : decode cL_law 520 = .ok (.invokevirtual 92, 3) := by decide +kernel
theorem dL_law_523 : decode cL_law 523 = .ok (.aload_n 2, 1) := by decide +kernel
theorem dL_law_524 : decode cL_law 524 = .ok (.invokevirtual 95, 3) := by decide +kernel
theorem dL_law_527 : decode cL_law 527 = .ok (.if_icmp .eq 18, 3) := by decide +kernel
theorem dL_law_530 : decode cL_law 530 = .ok (.iconst 0, 1) := by decide +kernel
theorem dL_law_531 : decode cL_law 531 = .ok (.ireturn, 1) := by decide +kernel
theorem dL_law_532 : decode cL_law 532 = .ok (.aload_n 1, 1) := by decide +kernel
theorem dL_law_533 : decode cL_law 533 = .ok (.invokevirtual 96, 3) := by decide +kernel
theorem dL_law_536 : decode cL_law 536 = .ok (.aload_n 2, 1) := by decide +kernel
theorem dL_law_537 : decode cL_law 537 = .ok (.invokevirtual 99, 3) := by decide +kernel
theorem dL_law_540 : decode cL_law 540 = .ok (.if_icmp .eq 5, 3) := by decide +kernel
theorem dL_law_543 : decode cL_law 543 = .ok (.iconst 0, 1) := by decide +kernel
theorem dL_law_544 : decode cL_law 544 = .ok (.ireturn, 1) := by decide +kernel
theorem dL_law_545 : decode cL_law 545 = .ok (.iinc 3 3, 3) := by decide +kernel
theorem dL_law_548 : decode cL_law 548 = .ok (.goto (-530), 3) := by decide +kernel
theorem dL_law_551 : decode cL_law 551 = .ok (.iconst 1, 1) := by decide +kernel
theorem dL_law_552 : decode cL_law 552 = .ok (.ireturn, 1) := by decide +kernel
end
section
theorem dX9_init_0 : decode cX9_init 0 = .ok (.aload_n 0, 1) := by decide +kernel
theorem dX9_init_1 : decode cX9_init 1 = .ok (.invokespecial 1, 3) := by decide +kernel
theorem dX9_init_4 : decode cX9_init 4 = .ok (.aload_n 0, 1) := by decide +kernel
theorem dX9_init_5 : decode cX9_init 5 = .ok (.bipush 9, 2) := by decide +kernel
theorem dX9_init_7 : decode cX9_init 7 = .ok (.anewarray 7, 3) := by decide +kernel
theorem dX9_init_10 : decode cX9_init 10 = .ok (.dup, 1) := by decide +kernel
theorem dX9_init_11 : decode cX9_init 11 = .ok (.iconst 0, 1) := by decide +kernel
theorem dX9_init_12 : decode cX9_init 12 = .ok (.ldc 9, 2) := by decide +kernel
theorem dX9_init_14 : decode cX9_init 14 = .ok (.aastore, 1) := by decide +kernel
theorem dX9_init_15 : decode cX9_init 15 = .ok (.dup, 1) := by decide +kernel
theorem dX9_init_16 : decode cX9_init 16 = .ok (.iconst 1, 1) := by decide +kernel
theorem dX9_init_17 : decode cX9_init 17 = .ok (.ldc 11, 2) := by decide +kernel
theorem dX9_init_19 : decode cX9_init 19 = .ok (.aastore, 1) := by decide +kernel
theorem dX9_init_20 : decode cX9_init 20 = .ok (.dup, 1) := by decide +kernel
theorem dX9_init_21 : decode cX9_init 21 = .ok (.iconst 2, 1) := by decide +kernel
theorem dX9_init_22 : decode cX9_init 22 = .ok (.ldc 13, 2) := by decide +kernel
theorem dX9_init_24 : decode cX9_init 24 = .ok (.aastore, 1) := by decide +kernel
theorem dX9_init_25 : decode cX9_init 25 = .ok (.dup, 1) := by decide +kernel
theorem dX9_init_26 : decode cX9_init 26 = .ok (.iconst 3, 1) := by decide +kernel
theorem dX9_init_27 : decode cX9_init 27 = .ok (.ldc 15, 2) := by decide +kernel
theorem dX9_init_29 : decode cX9_init 29 = .ok (.aastore, 1) := by decide +kernel
theorem dX9_init_30 : decode cX9_init 30 = .ok (.dup, 1) := by decide +kernel
theorem dX9_init_31 : decode cX9_init 31 = .ok (.iconst 4, 1) := by decide +kernel
theorem dX9_init_32 : decode cX9_init 32 = .ok (.ldc 17, 2) := by decide +kernel
theorem dX9_init_34 : decode cX9_init 34 = .ok (.aastore, 1) := by decide +kernel
theorem dX9_init_35 : decode cX9_init 35 = .ok (.dup, 1) := by decide +kernel
theorem dX9_init_36 : decode cX9_init 36 = .ok (.iconst 5, 1) := by decide +kernel
theorem dX9_init_37 : decode cX9_init 37 = .ok (.ldc 19, 2) := by decide +kernel
theorem dX9_init_39 : decode cX9_init 39 = .ok (.aastore, 1) := by decide +kernel
theorem dX9_init_40 : decode cX9_init 40 = .ok (.dup, 1) := by decide +kernel
theorem dX9_init_41 : decode cX9_init 41 = .ok (.bipush 6, 2) := by decide +kernel
theorem dX9_init_43 : decode cX9_init 43 = .ok (.ldc 21, 2) := by decide +kernel
theorem dX9_init_45 : decode cX9_init 45 = .ok (.aastore, 1) := by decide +kernel
theorem dX9_init_46 : decode cX9_init 46 = .ok (.dup, 1) := by decide +kernel
theorem dX9_init_47 : decode cX9_init 47 = .ok (.bipush 7, 2) := by decide +kernel
theorem dX9_init_49 : decode cX9_init 49 = .ok (.ldc 23, 2) := by decide +kernel
theorem dX9_init_51 : decode cX9_init 51 = .ok (.aastore, 1) := by decide +kernel
theorem dX9_init_52 : decode cX9_init 52 = .ok (.dup, 1) := by decide +kernel
theorem dX9_init_53 : decode cX9_init 53 = .ok (.bipush 8, 2) := by decide +kernel
theorem dX9_init_55 : decode cX9_init 55 = .ok (.ldc 25, 2) := by decide +kernel
theorem dX9_init_57 : decode cX9_init 57 = .ok (.aastore, 1) := by decide +kernel
theorem dX9_init_58 : decode cX9_init 58 = .ok (.putfield 27, 3) := by decide +kernel
theorem dX9_init_61 : decode cX9_init 61 = .ok (.aload_n 0, 1) := by decide +kernel
theorem dX9_init_62 : decode cX9_init 62 = .ok (.bipush 12, 2) := by decide +kernel
theorem dX9_init_64 : decode cX9_init 64 = .ok (.anewarray 7, 3) := by decide +kernel
theorem dX9_init_67 : decode cX9_init 67 = .ok (.dup, 1) := by decide +kernel
theorem dX9_init_68 : decode cX9_init 68 = .ok (.iconst 0, 1) := by decide +kernel
theorem dX9_init_69 : decode cX9_init 69 = .ok (.ldc 33, 2) := by decide +kernel
theorem dX9_init_71 : decode cX9_init 71 = .ok (.aastore, 1) := by decide +kernel
theorem dX9_init_72 : decode cX9_init 72 = .ok (.dup, 1) := by decide +kernel
theorem dX9_init_73 : decode cX9_init 73 = .ok (.iconst 1, 1) := by decide +kernel
theorem dX9_init_74 : decode cX9_init 74 = .ok (.ldc 35, 2) := by decide +kernel
theorem dX9_init_76 : decode cX9_init 76 = .ok (.aastore, 1) := by decide +kernel
theorem dX9_init_77 : decode cX9_init 77 = .ok (.dup, 1) := by decide +kernel
theorem dX9_init_78 : decode cX9_init 78 = .ok (.iconst 2, 1) := by decide +kernel
theorem dX9_init_79 : decode cX9_init 79 = .ok (.ldc 37, 2) := by decide +kernel
theorem dX9_init_81 : decode cX9_init 81 = .ok (.aastore, 1) := by decide +kernel
theorem dX9_init_82 : decode cX9_init 82 = .ok (.dup, 1) := by decide +kernel
theorem dX9_init_83 : decode cX9_init 83 = .ok (.iconst 3, 1) := by decide +kernel
theorem dX9_init_84 : decode cX9_init 84 = .ok (.ldc 39, 2) := by decide +kernel
theorem dX9_init_86 : decode cX9_init 86 = .ok (.aastore, 1) := by decide +kernel
theorem dX9_init_87 : decode cX9_init 87 = .ok (.dup, 1) := by decide +kernel
theorem dX9_init_88 : decode cX9_init 88 = .ok (.iconst 4, 1) := by decide +kernel
theorem dX9_init_89 : decode cX9_init 89 = .ok (.ldc 41, 2) := by decide +kernel
theorem dX9_init_91 : decode cX9_init 91 = .ok (.aastore, 1) := by decide +kernel
theorem dX9_init_92 : decode cX9_init 92 = .ok (.dup, 1) := by decide +kernel
theorem dX9_init_93 : decode cX9_init 93 = .ok (.iconst 5, 1) := by decide +kernel
theorem dX9_init_94 : decode cX9_init 94 = .ok (.ldc 43, 2) := by decide +kernel
theorem dX9_init_96 : decode cX9_init 96 = .ok (.aastore, 1) := by decide +kernel
theorem dX9_init_97 : decode cX9_init 97 = .ok (.dup, 1) := by decide +kernel
theorem dX9_init_98 : decode cX9_init 98 = .ok (.bipush 6, 2) := by decide +kernel
theorem dX9_init_100 : decode cX9_init 100 = .ok (.ldc 45, 2) := by decide +kernel
theorem dX9_init_102 : decode cX9_init 102 = .ok (.aastore, 1) := by decide +kernel
theorem dX9_init_103 : decode cX9_init 103 = .ok (.dup, 1) := by decide +kernel
theorem dX9_init_104 : decode cX9_init 104 = .ok (.bipush 7, 2) := by decide +kernel
theorem dX9_init_106 : decode cX9_init 106 = .ok (.ldc 47, 2) := by decide +kernel
theorem dX9_init_108 : decode cX9_init 108 = .ok (.aastore, 1) := by decide +kernel
theorem dX9_init_109 : decode cX9_init 109 = .ok (.dup, 1) := by decide +kernel
theorem dX9_init_110 : decode cX9_init 110 = .ok (.bipush 8, 2) := by decide +kernel
theorem dX9_init_112 : decode cX9_init 112 = .ok (.ldc 49, 2) := by decide +kernel
theorem dX9_init_114 : decode cX9_init 114 = .ok (.aastore, 1) := by decide +kernel
theorem dX9_init_115 : decode cX9_init 115 = .ok (.dup, 1) := by decide +kernel
theorem dX9_init_116 : decode cX9_init 116 = .ok (.bipush 9, 2) := by decide +kernel
theorem dX9_init_118 : decode cX9_init 118 = .ok (.ldc 51, 2) := by decide +kernel
theorem dX9_init_120 : decode cX9_init 120 = .ok (.aastore, 1) := by decide +kernel
theorem dX9_init_121 : decode cX9_init 121 = .ok (.dup, 1) := by decide +kernel
theorem dX9_init_122 : decode cX9_init 122 = .ok (.bipush 10, 2) := by decide +kernel
theorem dX9_init_124 : decode cX9_init 124 = .ok (.ldc 53, 2) := by decide +kernel
theorem dX9_init_126 : decode cX9_init 126 = .ok (.aastore, 1) := by decide +kernel
theorem dX9_init_127 : decode cX9_init 127 = .ok (.dup, 1) := by decide +kernel
theorem dX9_init_128 : decode cX9_init 128 = .ok (.bipush 11, 2) := by decide +kernel
theorem dX9_init_130 : decode cX9_init 130 = .ok (.ldc 55, 2) := by decide +kernel
theorem dX9_init_132 : decode cX9_init 132 = .ok (.aastore, 1) := by decide +kernel
theorem dX9_init_133 : decode cX9_init 133 = .ok (.putfield 57, 3) := by decide +kernel
theorem dX9_init_136 : decode cX9_init 136 = .ok (.aload_n 0, 1) := by decide +kernel
theorem dX9_init_137 : decode cX9_init 137 = .ok (.bipush 8, 2) := by decide +kernel
theorem dX9_init_139 : decode cX9_init 139 = .ok (.newarray .int, 2) := by decide +kernel
theorem dX9_init_141 : decode cX9_init 141 = .ok (.putfield 60, 3) := by decide +kernel
theorem dX9_init_144 : decode cX9_init 144 = .ok (.aload_n 0, 1) := by decide +kernel
theorem dX9_init_145 : decode cX9_init 145 = .ok (.bipush 8, 2) := by decide +kernel
theorem dX9_init_147 : decode cX9_init 147 = .ok (.newarray .int, 2) := by decide +kernel
theorem dX9_init_149 : decode cX9_init 149 = .ok (.putfield 64, 3) := by decide +kernel
theorem dX9_init_152 : decode cX9_init 152 = .ok (.aload_n 0, 1) := by decide +kernel
theorem dX9_init_153 : decode cX9_init 153 = .ok (.bipush 16, 2) := by decide +kernel
theorem dX9_init_155 : decode cX9_init 155 = .ok (.newarray .int, 2) := by decide +kernel
theorem dX9_init_157 : decode cX9_init 157 = .ok (.putfield 67, 3) := by decide +kernel
theorem dX9_init_160 : decode cX9_init 160 = .ok (.aload_n 0, 1) := by decide +kernel
theorem dX9_init_161 : decode cX9_init 161 = .ok (.bipush 8, 2) := by decide +kernel
theorem dX9_init_163 : decode cX9_init 163 = .ok (.newarray .int, 2) := by decide +kernel
theorem dX9_init_165 : decode cX9_init 165 = .ok (.putfield 70, 3) := by decide +kernel
theorem dX9_init_168 : decode cX9_init 168 = .ok (.aload_n 0, 1) := by decide +kernel
theorem dX9_init_169 : decode cX9_init 169 = .ok (.bipush 8, 2) := by decide +kernel
theorem dX9_init_171 : decode cX9_init 171 = .ok (.newarray .int, 2) := by decide +kernel
theorem dX9_init_173 : decode cX9_init 173 = .ok (.putfield 73, 3) := by decide +kernel
theorem dX9_init_176 : decode cX9_init 176 = .ok (.aload_n 0, 1) := by decide +kernel
theorem dX9_init_177 : decode cX9_init 177 = .ok (.bipush 8, 2) := by decide +kernel
theorem dX9_init_179 : decode cX9_init 179 = .ok (.newarray .int, 2) := by decide +kernel
theorem dX9_init_181 : decode cX9_init 181 = .ok (.putfield 76, 3) := by decide +kernel
theorem dX9_init_184 : decode cX9_init 184 = .ok (.aload_n 0, 1) := by decide +kernel
theorem dX9_init_185 : decode cX9_init 185 = .ok (.bipush 8, 2) := by decide +kernel
theorem dX9_init_187 : decode cX9_init 187 = .ok (.newarray .boolean, 2) := by decide +kernel
theorem dX9_init_189 : decode cX9_init 189 = .ok (.putfield 79, 3) := by decide +kernel
theorem dX9_init_192 : decode cX9_init 192 = .ok (.aload_n 0, 1) := by decide +kernel
theorem dX9_init_193 : decode cX9_init 193 = .ok (.bipush 8, 2) := by decide +kernel
theorem dX9_init_195 : decode cX9_init 195 = .ok (.newarray .int, 2) := by decide +kernel
theorem dX9_init_197 : decode cX9_init 197 = .ok (.putfield 83, 3) := by decide +kernel
theorem dX9_init_200 : decode cX9_init 200 = .ok (.aload_n 0, 1) := by decide +kernel
theorem dX9_init_201 : decode cX9_init 201 = .ok (.bipush 8, 2) := by decide +kernel
theorem dX9_init_203 : decode cX9_init 203 = .ok (.newarray .int, 2) := by decide +kernel
theorem dX9_init_205 : decode cX9_init 205 = .ok (.putfield 86, 3) := by decide +kernel
theorem dX9_init_208 : decode cX9_init 208 = .ok (.aload_n 0, 1) := by decide +kernel
theorem dX9_init_209 : decode cX9_init 209 = .ok (.sipush 201, 3) := by decide +kernel
theorem dX9_init_212 : decode cX9_init 212 = .ok (.newarray .long, 2) := by decide +kernel
theorem dX9_init_214 : decode cX9_init 214 = .ok (.putfield 89, 3) := by decide +kernel
theorem dX9_init_217 : decode cX9_init 217 = .ok (.aload_n 0, 1) := by decide +kernel
theorem dX9_init_218 : decode cX9_init 218 = .ok (.sipush 201, 3) := by decide +kernel
theorem dX9_init_221 : decode cX9_init 221 = .ok (.newarray .long, 2) := by decide +kernel
theorem dX9_init_223 : decode cX9_init 223 = .ok (.putfield 93, 3) := by decide +kernel
theorem dX9_init_226 : decode cX9_init 226 = .ok (.aload_n 0, 1) := by decide +kernel
theorem dX9_init_227 : decode cX9_init 227 = .ok (.sipush 200, 3) := by decide +kernel
theorem dX9_init_230 : decode cX9_init 230 = .ok (.newarray .int, 2) := by decide +kernel
theorem dX9_init_232 : decode cX9_init 232 = .ok (.putfield 96, 3) := by decide +kernel
theorem dX9_init_235 : decode cX9_init 235 = .ok (.aload_n 0, 1) := by decide +kernel
theorem dX9_init_236 : decode cX9_init 236 = .ok (.sipush 200, 3) := by decide +kernel
theorem dX9_init_239 : decode cX9_init 239 = .ok (.newarray .int, 2) := by decide +kernel
theorem dX9_init_241 : decode cX9_init 241 = .ok (.putfield 99, 3) := by decide +kernel
theorem dX9_init_244 : decode cX9_init 244 = .ok (.aload_n 0, 1) := by decide +kernel
theorem dX9_init_245 : decode cX9_init 245 = .ok (.bipush 12, 2) := by decide +kernel
theorem dX9_init_247 : decode cX9_init 247 = .ok (.newarray .int, 2) := by decide +kernel
theorem dX9_init_249 : decode cX9_init 249 = .ok (.putfield 102, 3) := by decide +kernel
theorem dX9_init_252 : decode cX9_init 252 = .ok (.aload_n 0, 1) := by decide +kernel
theorem dX9_init_253 : decode cX9_init 253 = .ok (.bipush (-2), 2) := by decide +kernel
theorem dX9_init_255 : decode cX9_init 255 = .ok (.putfield 105, 3) := by decide +kernel
theorem dX9_init_258 : decode cX9_init 258 = .ok (.aload_n 0, 1) := by decide +kernel
theorem dX9_init_259 : decode cX9_init 259 = .ok (.bipush 120, 2) := by decide +kernel
theorem dX9_init_261 : decode cX9_init 261 = .ok (.newarray .int, 2) := by decide +kernel
theorem dX9_init_263 : decode cX9_init 263 = .ok (.putfield 109, 3) := by decide +kernel
theorem dX9_init_266 : decode cX9_init 266 = .ok (.aload_n 0, 1) := by decide +kernel
theorem dX9_init_267 : decode cX9_init 267 = .ok (.bipush 120, 2) := by decide +kernel
theorem dX9_init_269 : decode cX9_init 269 = .ok (.newarray .int, 2) := by decide +kernel
theorem dX9_init_271 : decode cX9_init 271 = .ok (.putfield 112, 3) := by decide +kernel
theorem dX9_init_274 : decode cX9_init 274 = .ok (.aload_n 0, 1) := by decide +kernel
theorem dX9_init_275 : decode cX9_init 275 = .ok (.sipush 251, 3) := by decide +kernel
theorem dX9_init_278 : decode cX9_init 278 = .ok (.newarray .long, 2) := by decide +kernel
theorem dX9_init_280 : decode cX9_init 280 = .ok (.putfield 115, 3) := by decide +kernel
theorem dX9_init_283 : decode cX9_init 283 = .ok (.aload_n 0, 1) := by decide +kernel
theorem dX9_init_284 : decode cX9_init 284 = .ok (.sipush 251, 3) := by decide +kernel
theorem dX9_init_287 : decode cX9_init 287 = .ok (.newarray .int, 2) := by decide +kernel
theorem dX9_init_289 : decode cX9_init 289 = .ok (.putfield 118, 3) := by decide +kernel
theorem dX9_init_292 : decode cX9_init 292 = .ok (.aload_n 0, 1) := by decide +kernel
theorem dX9_init_293 : decode cX9_init 293 = .ok (.sipush 251, 3) := by decide +kernel
theorem dX9_init_296 : decode cX9_init 296 = .ok (.newarray .int, 2) := by decide +kernel
theorem dX9_init_298 : decode cX9_init 298 = .ok (.putfield 121, 3) := by decide +kernel
theorem dX9_init_301 : decode cX9_init 301 = .ok (.aload_n 0, 1) := by decide +kernel
theorem dX9_init_302 : decode cX9_init 302 = .ok (.sipush 251, 3) := by decide +kernel
theorem dX9_init_305 : decode cX9_init 305 = .ok (.newarray .int, 2) := by decide +kernel
theorem dX9_init_307 : decode cX9_init 307 = .ok (.putfield 124, 3) := by decide +kernel
theorem dX9_init_310 : decode cX9_init 310 = .ok (.aload_n 0, 1) := by decide +kernel
theorem dX9_init_311 : decode cX9_init 311 = .ok (.sipush 4000, 3) := by decide +kernel
theorem dX9_init_314 : decode cX9_init 314 = .ok (.newarray .int, 2) := by decide +kernel
theorem dX9_init_316 : decode cX9_init 316 = .ok (.putfield 127, 3) := by decide +kernel
theorem dX9_init_319 : decode cX9_init 319 = .ok (.iconst 0, 1) := by decide +kernel
theorem dX9_init_320 : decode cX9_init 320 = .ok (.istore_n 1, 1) := by decide +kernel
theorem dX9_init_321 : decode cX9_init 321 = .ok (.iload_n 1, 1) := by decide +kernel
theorem dX9_init_322 : decode cX9_init 322 = .ok (.bipush 8, 2) := by decide +kernel
theorem dX9_init_324 : decode cX9_init 324 = .ok (.if_icmp .ge 31, 3) := by decide +kernel
theorem dX9_init_327 : decode cX9_init 327 = .ok (.aload_n 0, 1) := by decide +kernel
theorem dX9_init_328 : decode cX9_init 328 = .ok (.getfield 60, 3) := by decide +kernel
theorem dX9_init_331 : decode cX9_init 331 = .ok (.iload_n 1, 1) := by decide +kernel
theorem dX9_init_332 : decode cX9_init 332 = .ok (.getstatic 130, 3) := by decide +kernel
theorem dX9_init_335 : decode cX9_init 335 = .ok (.iload_n 1, 1) := by decide +kernel
theorem dX9_init_336 : decode cX9_init 336 = .ok (.iaload, 1) := by decide +kernel
theorem dX9_init_337 : decode cX9_init 337 = .ok (.iastore, 1) := by decide +kernel
theorem dX9_init_338 : decode cX9_init 338 = .ok (.aload_n 0, 1) := by decide +kernel
theorem dX9_init_339 : decode cX9_init 339 = .ok (.getfield 64, 3) := by decide +kernel
theorem dX9_init_342 : decode cX9_init 342 = .ok (.iload_n 1, 1) := by decide +kernel
theorem dX9_init_343 : decode cX9_init 343 = .ok (.getstatic 133, 3) := by decide +kernel
theorem dX9_init_346 : decode cX9_init 346 = .ok (.iload_n 1, 1) := by decide +kernel
theorem dX9_init_347 : decode cX9_init 347 = .ok (.iaload, 1) := by decide +kernel
theorem dX9_init_348 : decode cX9_init 348 = .ok (.iastore, 1) := by decide +kernel
theorem dX9_init_349 : decode cX9_init 349 = .ok (.iinc 1 1, 3) := by decide +kernel
theorem dX9_init_352 : decode cX9_init 352 = .ok (.goto (-31), 3) := by decide +kernel
theorem dX9_init_355 : decode cX9_init 355 = .ok (.aload_n 0, 1) := by decide +kernel
theorem dX9_init_356 : decode cX9_init 356 = .ok (.getfield 89, 3) := by decide +kernel
theorem dX9_init_359 : decode cX9_init 359 = .ok (.iconst 0, 1) := by decide +kernel
theorem dX9_init_360 : decode cX9_init 360 = .ok (.aload_n 0, 1) := by decide +kernel
theorem dX9_init_361 : decode cX9_init 361 = .ok (.invokevirtual 136, 3) := by decide +kernel
theorem dX9_init_364 : decode cX9_init 364 = .ok (.lastore, 1) := by decide +kernel
theorem dX9_init_365 : decode cX9_init 365 = .ok (.aload_n 0, 1) := by decide +kernel
theorem dX9_init_366 : decode cX9_init 366 = .ok (.aload_n 0, 1) := by decide +kernel
theorem dX9_init_367 : decode cX9_init 367 = .ok (.getfield 89, 3) := by decide +kernel
theorem dX9_init_370 : decode cX9_init 370 = .ok (.iconst 0, 1) := by decide +kernel
theorem dX9_init_371 : decode cX9_init 371 = .ok (.laload, 1) := by decide +kernel
theorem dX9_init_372 : decode cX9_init 372 = .ok (.invokevirtual 140, 3) := by decide +kernel
theorem dX9_init_375 : decode cX9_init 375 = .ok (.return_, 1) := by decide +kernel
theorem dX9_isIn_0 : decode cX9_isIn 0 = .ok (.iload_n 0, 1) := by decide +kernel
theorem dX9_isIn_1 : decode cX9_isIn 1 = .ok (.iload_n 1, 1) := by decide +kernel
theorem dX9_isIn_2 : decode cX9_isIn 2 = .ok (.if_icmp .lt 12, 3) := by decide +kernel
theorem dX9_isIn_5 : decode cX9_isIn 5 = .ok (.iload_n 0, 1) := by decide +kernel
theorem dX9_isIn_6 : decode cX9_isIn 6 = .ok (.iload_n 2, 1) := by decide +kernel
theorem dX9_isIn_7 : decode cX9_isIn 7 = .ok (.if_icmp .gt 7, 3) := by decide +kernel
theorem dX9_isIn_10 : decode cX9_isIn 10 = .ok (.iconst 1, 1) := by decide +kernel
theorem dX9_isIn_11 : decode cX9_isIn 11 = .ok (.goto 4, 3) := by decide +kernel
theorem dX9_isIn_14 : decode cX9_isIn 14 = .ok (.iconst 0, 1) := by decide +kernel
theorem dX9_isIn_15 : decode cX9_isIn 15 = .ok (.ireturn, 1) := by decide +kernel
theorem dX9_has_0 : decode cX9_has 0 = .ok (.iload_n 0, 1) := by decide +kernel
theorem dX9_has_1 : decode cX9_has 1 = .ok (.iload_n 1, 1) := by decide +kernel
theorem dX9_has_2 : decode cX9_has 2 = .ok (.ishr, 1) := by decide +kernel
theorem dX9_has_3 : decode cX9_has 3 = .ok (.iconst 1, 1) := by decide +kernel
theorem dX9_has_4 : decode cX9_has 4 = .ok (.iand, 1) := by decide +kernel
theorem dX9_has_5 : decode cX9_has 5 = .ok (.iconst 1, 1) := by decide +kernel
theorem dX9_has_6 : decode cX9_has 6 = .ok (.if_icmp .ne 7, 3) := by decide +kernel
theorem dX9_has_9 : decode cX9_has 9 = .ok (.iconst 1, 1) := by decide +kernel
theorem dX9_has_10 : decode cX9_has 10 = .ok (.goto 4, 3) := by decide +kernel
theorem dX9_has_13 : decode cX9_has 13 = .ok (.iconst 0, 1) := by decide +kernel
theorem dX9_has_14 : decode cX9_has 14 = .ok (.ireturn, 1) := by decide +kernel
theorem dX9_code_0 : decode cX9_code 0 = .ok (.lconst 0, 1) := by decide +kernel
theorem dX9_code_1 : decode cX9_code 1 = .ok (.lstore_n 1, 1) := by decide +kernel
theorem dX9_code_2 : decode cX9_code 2 = .ok (.iconst 0, 1) := by decide +kernel
theorem dX9_code_3 : decode cX9_code 3 = .ok (.istore_n 3, 1) := by decide +kernel
theorem dX9_code_4 : decode cX9_code 4 = .ok (.iload_n 3, 1) := by decide +kernel
theorem dX9_code_5 : decode cX9_code 5 = .ok (.bipush 8, 2) := by decide +kernel
theorem dX9_code_7 : decode cX9_code 7 = .ok (.if_icmp .ge 33, 3) := by decide +kernel
theorem dX9_code_10 : decode cX9_code 10 = .ok (.lload_n 1, 1) := by decide +kernel
theorem dX9_code_11 : decode cX9_code 11 = .ok (.iconst 4, 1) := by decide +kernel
theorem dX9_code_12 : decode cX9_code 12 = .ok (.aload_n 0, 1) := by decide +kernel
theorem dX9_code_13 : decode cX9_code 13 = .ok (.getfield 60, 3) := by decide +kernel
theorem dX9_code_16 : decode cX9_code 16 = .ok (.iload_n 3, 1) := by decide +kernel
theorem dX9_code_17 : decode cX9_code 17 = .ok (.iaload, 1) := by decide +kernel
theorem dX9_code_18 : decode cX9_code 18 = .ok (.imul, 1) := by decide +kernel
theorem dX9_code_19 : decode cX9_code 19 = .ok (.aload_n 0, 1) := by decide +kernel
theorem dX9_code_20 : decode cX9_code 20 = .ok (.getfield 64, 3) := by decide +kernel
theorem dX9_code_23 : decode cX9_code 23 = .ok (.iload_n 3, 1) := by decide +kernel
theorem dX9_code_24 : decode cX9_code 24 = .ok (.iaload, 1) := by decide +kernel
theorem dX9_code_25 : decode cX9_code 25 = .ok (.iadd, 1) := by decide +kernel
theorem dX9_code_26 : decode cX9_code 26 = .ok (.i2l, 1) := by decide +kernel
theorem dX9_code_27 : decode cX9_code 27 = .ok (.bipush 6, 2) := by decide +kernel
theorem dX9_code_29 : decode cX9_code 29 = .ok (.iload_n 3, 1) := by decide +kernel
theorem dX9_code_30 : decode cX9_code 30 = .ok (.imul, 1) := by decide +kernel
theorem dX9_code_31 : decode cX9_code 31 = .ok (.lshl, 1) := by decide +kernel
theorem dX9_code_32 : decode cX9_code 32 = .ok (.lor, 1) := by decide +kernel
theorem dX9_code_33 : decode cX9_code 33 = .ok (.lstore_n 1, 1) := by decide +kernel
theorem dX9_code_34 : decode cX9_code 34 = .ok (.iinc 3 1, 3) := by decide +kernel
theorem dX9_code_37 : decode cX9_code 37 = .ok (.goto (-33), 3) := by decide +kernel
theorem dX9_code_40 : decode cX9_code 40 = .ok (.lload_n 1, 1) := by decide +kernel
theorem dX9_code_41 : decode cX9_code 41 = .ok (.lreturn, 1) := by decide +kernel
theorem dX9_looks_0 : decode cX9_looks 0 = .ok (.iconst 0, 1) := by decide +kernel
theorem dX9_looks_1 : decode cX9_looks 1 = .ok (.istore_n 3, 1) := by decide +kernel
theorem dX9_looks_2 : decode cX9_looks 2 = .ok (.iload_n 3, 1) := by decide +kernel
theorem dX9_looks_3 : decode cX9_looks 3 = .ok (.bipush 16, 2) := by decide +kernel
theorem dX9_looks_5 : decode cX9_looks 5 = .ok (.if_icmp .ge 17, 3) := by decide +kernel
theorem dX9_looks_8 : decode cX9_looks 8 = .ok (.aload_n 0, 1) := by decide +kernel
theorem dX9_looks_9 : decode cX9_looks 9 = .ok (.getfield 67, 3) := by decide +kernel
theorem dX9_looks_12 : decode cX9_looks 12 = .ok (.iload_n 3, 1) := by decide +kernel
theorem dX9_looks_13 : decode cX9_looks 13 = .ok (.bipush (-2), 2) := by decide +kernel
theorem dX9_looks_15 : decode cX9_looks 15 = .ok (.iastore, 1) := by decide +kernel
theorem dX9_looks_16 : decode cX9_looks 16 = .ok (.iinc 3 1, 3) := by decide +kernel
theorem dX9_looks_19 : decode cX9_looks 19 = .ok (.goto (-17), 3) := by decide +kernel
theorem dX9_looks_22 : decode cX9_looks 22 = .ok (.iconst 0, 1) := by decide +kernel
theorem dX9_looks_23 : decode cX9_looks 23 = .ok (.istore_n 3, 1) := by decide +kernel
theorem dX9_looks_24 : decode cX9_looks 24 = .ok (.iload_n 3, 1) := by decide +kernel
theorem dX9_looks_25 : decode cX9_looks 25 = .ok (.bipush 8, 2) := by decide +kernel
theorem dX9_looks_27 : decode cX9_looks 27 = .ok (.if_icmp .ge 53, 3) := by decide +kernel
theorem dX9_looks_30 : decode cX9_looks 30 = .ok (.lload_n 1, 1) := by decide +kernel
theorem dX9_looks_31 : decode cX9_looks 31 = .ok (.bipush 6, 2) := by decide +kernel
theorem dX9_looks_33 : decode cX9_looks 33 = .ok (.iload_n 3, 1) := by decide +kernel
theorem dX9_looks_34 : decode cX9_looks 34 = .ok (.imul, 1) := by decide +kernel
theorem dX9_looks_35 : decode cX9_looks 35 = .ok (.lshr, 1) := by decide +kernel
theorem dX9_looks_36 : decode cX9_looks 36 = .ok (.l2i, 1) := by decide +kernel
theorem dX9_looks_37 : decode cX9_looks 37 = .ok (.bipush 63, 2) := by decide +kernel
theorem dX9_looks_39 : decode cX9_looks 39 = .ok (.iand, 1) := by decide +kernel
theorem dX9_looks_40 : decode cX9_looks 40 = .ok (.istore 4, 2) := by decide +kernel
theorem dX9_looks_42 : decode cX9_looks 42 = .ok (.aload_n 0, 1) := by decide +kernel
theorem dX9_looks_43 : decode cX9_looks 43 = .ok (.getfield 60, 3) := by decide +kernel
theorem dX9_looks_46 : decode cX9_looks 46 = .ok (.iload_n 3, 1) := by decide +kernel
theorem dX9_looks_47 : decode cX9_looks 47 = .ok (.iload 4, 2) := by decide +kernel
theorem dX9_looks_49 : decode cX9_looks 49 = .ok (.iconst 4, 1) := by decide +kernel
theorem dX9_looks_50 : decode cX9_looks 50 = .ok (.idiv, 1) := by decide +kernel
theorem dX9_looks_51 : decode cX9_looks 51 = .ok (.iastore, 1) := by decide +kernel
theorem dX9_looks_52 : decode cX9_looks 52 = .ok (.aload_n 0, 1) := by decide +kernel
theorem dX9_looks_53 : decode cX9_looks 53 = .ok (.getfield 64, 3) := by decide +kernel
theorem dX9_looks_56 : decode cX9_looks 56 = .ok (.iload_n 3, 1) := by decide +kernel
theorem dX9_looks_57 : decode cX9_looks 57 = .ok (.iload 4, 2) := by decide +kernel
theorem dX9_looks_59 : decode cX9_looks 59 = .ok (.iconst 4, 1) := by decide +kernel
theorem dX9_looks_60 : decode cX9_looks 60 = .ok (.irem, 1) := by decide +kernel
theorem dX9_looks_61 : decode cX9_looks 61 = .ok (.iastore, 1) := by decide +kernel
theorem dX9_looks_62 : decode cX9_looks 62 = .ok (.aload_n 0, 1) := by decide +kernel
theorem dX9_looks_63 : decode cX9_looks 63 = .ok (.getfield 67, 3) := by decide +kernel
theorem dX9_looks_66 : decode cX9_looks 66 = .ok (.aload_n 0, 1) := by decide +kernel
theorem dX9_looks_67 : decode cX9_looks 67 = .ok (.getfield 60, 3) := by decide +kernel
theorem dX9_looks_70 : decode cX9_looks 70 = .ok (.iload_n 3, 1) := by decide +kernel
theorem dX9_looks_71 : decode cX9_looks 71 = .ok (.iaload, 1) := by decide +kernel
theorem dX9_looks_72 : decode cX9_looks 72 = .ok (.iload_n 3, 1) := by decide +kernel
theorem dX9_looks_73 : decode cX9_looks 73 = .ok (.iastore, 1) := by decide +kernel
theorem dX9_looks_74 : decode cX9_looks 74 = .ok (.iinc 3 1, 3) := by decide +kernel
theorem dX9_looks_77 : decode cX9_looks 77 = .ok (.goto (-53), 3) := by decide +kernel
theorem dX9_looks_80 : decode cX9_looks 80 = .ok (.return_, 1) := by decide +kernel
theorem dX9_looksNow_0 : decode cX9_looksNow 0 = .ok (.aload_n 0, 1) := by decide +kernel
theorem dX9_looksNow_1 : decode cX9_looksNow 1 = .ok (.aload_n 0, 1) := by decide +kernel
theorem dX9_looksNow_2 : decode cX9_looksNow 2 = .ok (.getfield 89, 3) := by decide +kernel
theorem dX9_looksNow_5 : decode cX9_looksNow 5 = .ok (.aload_n 0, 1) := by decide +kernel
theorem dX9_looksNow_6 : decode cX9_looksNow 6 = .ok (.getfield 144, 3) := by decide +kernel
theorem dX9_looksNow_9 : decode cX9_looksNow 9 = .ok (.laload, 1) := by decide +kernel
theorem dX9_looksNow_10 : decode cX9_looksNow 10 = .ok (.invokevirtual 140, 3) := by decide +kernel
theorem dX9_looksNow_13 : decode cX9_looksNow 13 = .ok (.return_, 1) := by decide +kernel
theorem dX9_next_0 : decode cX9_next 0 = .ok (.iload_n 0, 1) := by decide +kernel
theorem dX9_next_1 : decode cX9_next 1 = .ok (.iconst 4, 1) := by decide +kernel
theorem dX9_next_2 : decode cX9_next 2 = .ok (.irem, 1) := by decide +kernel
theorem dX9_next_3 : decode cX9_next 3 = .ok (.iload_n 1, 1) := by decide +kernel
theorem dX9_next_4 : decode cX9_next 4 = .ok (.iconst 1, 1) := by decide +kernel
theorem dX9_next_5 : decode cX9_next 5 = .ok (.if_icmp .ne 7, 3) := by decide +kernel
theorem dX9_next_8 : decode cX9_next 8 = .ok (.iconst 1, 1) := by decide +kernel
theorem dX9_next_9 : decode cX9_next 9 = .ok (.goto 13, 3) := by decide +kernel
theorem dX9_next_12 : decode cX9_next 12 = .ok (.iload_n 1, 1) := by decide +kernel
theorem dX9_next_13 : decode cX9_next 13 = .ok (.iconst 3, 1) := by decide +kernel
theorem dX9_next_14 : decode cX9_next 14 = .ok (.if_icmp .ne 7, 3) := by decide +kernel
theorem dX9_next_17 : decode cX9_next 17 = .ok (.iconst (-1), 1) := by decide +kernel
theorem dX9_next_18 : decode cX9_next 18 = .ok (.goto 4, 3) := by decide +kernel
theorem dX9_next_21 : decode cX9_next 21 = .ok (.iconst 0, 1) := by decide +kernel
theorem dX9_next_22 : decode cX9_next 22 = .ok (.iadd, 1) := by decide +kernel
theorem dX9_next_23 : decode cX9_next 23 = .ok (.istore_n 2, 1) := by decide +kernel
theorem dX9_next_24 : decode cX9_next 24 = .ok (.iload_n 0, 1) := by decide +kernel
theorem dX9_next_25 : decode cX9_next 25 = .ok (.iconst 4, 1) := by decide +kernel
theorem dX9_next_26 : decode cX9_next 26 = .ok (.idiv, 1) := by decide +kernel
theorem dX9_next_27 : decode cX9_next 27 = .ok (.iload_n 1, 1) := by decide +kernel
theorem dX9_next_28 : decode cX9_next 28 = .ok (.ifCond .ne 7, 3) := by decide +kernel
theorem dX9_next_31 : decode cX9_next 31 = .ok (.iconst 1, 1) := by decide +kernel
theorem dX9_next_32 : decode cX9_next 32 = .ok (.goto 13, 3) := by decide +kernel
theorem dX9_next_35 : decode cX9_next 35 = .ok (.iload_n 1, 1) := by decide +kernel
theorem dX9_next_36 : decode cX9_next 36 = .ok (.iconst 2, 1) := by decide +kernel
theorem dX9_next_37 : decode cX9_next 37 = .ok (.if_icmp .ne 7, 3) := by decide +kernel
theorem dX9_next_40 : decode cX9_next 40 = .ok (.iconst (-1), 1) := by decide +kernel
theorem dX9_next_41 : decode cX9_next 41 = .ok (.goto 4, 3) := by decide +kernel
theorem dX9_next_44 : decode cX9_next 44 = .ok (.iconst 0, 1) := by decide +kernel
theorem dX9_next_45 : decode cX9_next 45 = .ok (.iadd, 1) := by decide +kernel
theorem dX9_next_46 : decode cX9_next 46 = .ok (.istore_n 3, 1) := by decide +kernel
theorem dX9_next_47 : decode cX9_next 47 = .ok (.iload_n 2, 1) := by decide +kernel
theorem dX9_next_48 : decode cX9_next 48 = .ok (.iconst 0, 1) := by decide +kernel
theorem dX9_next_49 : decode cX9_next 49 = .ok (.iconst 3, 1) := by decide +kernel
theorem dX9_next_50 : decode cX9_next 50 = .ok (.invokestatic 147, 3) := by decide +kernel
theorem dX9_next_53 : decode cX9_next 53 = .ok (.ifCond .eq 20, 3) := by decide +kernel
theorem dX9_next_56 : decode cX9_next 56 = .ok (.iload_n 3, 1) := by decide +kernel
theorem dX9_next_57 : decode cX9_next 57 = .ok (.iconst 0, 1) := by decide +kernel
theorem dX9_next_58 : decode cX9_next 58 = .ok (.iconst 3, 1) := by decide +kernel
theorem dX9_next_59 : decode cX9_next 59 = .ok (.invokestatic 147, 3) := by decide +kernel
theorem dX9_next_62 : decode cX9_next 62 = .ok (.ifCond .eq 11, 3) := by decide +kernel
theorem dX9_next_65 : decode cX9_next 65 = .ok (.iconst 4, 1) := by decide +kernel
theorem dX9_next_66 : decode cX9_next 66 = .ok (.iload_n 3, 1) := by decide +kernel
theorem dX9_next_67 : decode cX9_next 67 = .ok (.imul, 1) := by decide +kernel
theorem dX9_next_68 : decode cX9_next 68 = .ok (.iload_n 2, 1) := by decide +kernel
theorem dX9_next_69 : decode cX9_next 69 = .ok (.iadd, 1) := by decide +kernel
theorem dX9_next_70 : decode cX9_next 70 = .ok (.goto 5, 3) := by decide +kernel
theorem dX9_next_73 : decode cX9_next 73 = .ok (.bipush (-2), 2) := by decide +kernel
theorem dX9_next_75 : decode cX9_next 75 = .ok (.ireturn, 1) := by decide +kernel
theorem dX9_beside_0 : decode cX9_beside 0 = .ok (.aload_n 0, 1) := by decide +kernel
theorem dX9_beside_1 : decode cX9_beside 1 = .ok (.getfield 60, 3) := by decide +kernel
theorem dX9_beside_4 : decode cX9_beside 4 = .ok (.iload_n 1, 1) := by decide +kernel
theorem dX9_beside_5 : decode cX9_beside 5 = .ok (.iaload, 1) := by decide +kernel
theorem dX9_beside_6 : decode cX9_beside 6 = .ok (.aload_n 0, 1) := by decide +kernel
theorem dX9_beside_7 : decode cX9_beside 7 = .ok (.getfield 64, 3) := by decide +kernel
theorem dX9_beside_10 : decode cX9_beside 10 = .ok (.iload_n 1, 1) := by decide +kernel
theorem dX9_beside_11 : decode cX9_beside 11 = .ok (.iaload, 1) := by decide +kernel
theorem dX9_beside_12 : decode cX9_beside 12 = .ok (.iload_n 2, 1) := by decide +kernel
theorem dX9_beside_13 : decode cX9_beside 13 = .ok (.iadd, 1) := by decide +kernel
theorem dX9_beside_14 : decode cX9_beside 14 = .ok (.iconst 4, 1) := by decide +kernel
theorem dX9_beside_15 : decode cX9_beside 15 = .ok (.irem, 1) := by decide +kernel
theorem dX9_beside_16 : decode cX9_beside 16 = .ok (.invokestatic 151, 3) := by decide +kernel
theorem dX9_beside_19 : decode cX9_beside 19 = .ok (.istore_n 3, 1) := by decide +kernel
theorem dX9_beside_20 : decode cX9_beside 20 = .ok (.iload_n 3, 1) := by decide +kernel
theorem dX9_beside_21 : decode cX9_beside 21 = .ok (.ifCond .ge 8, 3) := by decide +kernel
theorem dX9_beside_24 : decode cX9_beside 24 = .ok (.bipush (-2), 2) := by decide +kernel
theorem dX9_beside_26 : decode cX9_beside 26 = .ok (.goto 9, 3) := by decide +kernel
theorem dX9_beside_29 : decode cX9_beside 29 = .ok (.aload_n 0, 1) := by decide +kernel
theorem dX9_beside_30 : decode cX9_beside 30 = .ok (.getfield 67, 3) := by decide +kernel
theorem dX9_beside_33 : decode cX9_beside 33 = .ok (.iload_n 3, 1) := by decide +kernel
theorem dX9_beside_34 : decode cX9_beside 34 = .ok (.iaload, 1) := by decide +kernel
theorem dX9_beside_35 : decode cX9_beside 35 = .ok (.ireturn, 1) := by decide +kernel
theorem dX9_isMeant_0 : decode cX9_isMeant 0 = .ok (.iload_n 2, 1) := by decide +kernel
theorem dX9_isMeant_1 : decode cX9_isMeant 1 = .ok (.iconst 5, 1) := by decide +kernel
theorem dX9_isMeant_2 : decode cX9_isMeant 2 = .ok (.if_icmp .ge 13, 3) := by decide +kernel
theorem dX9_isMeant_5 : decode cX9_isMeant 5 = .ok (.getstatic 155, 3) := by decide +kernel
theorem dX9_isMeant_8 : decode cX9_isMeant 8 = .ok (.iload_n 2, 1) := by decide +kernel
theorem dX9_isMeant_9 : decode cX9_isMeant 9 = .ok (.iaload, 1) := by decide +kernel
theorem dX9_isMeant_10 : decode cX9_isMeant 10 = .ok (.iload_n 1, 1) := by decide +kernel
theorem dX9_isMeant_11 : decode cX9_isMeant 11 = .ok (.invokestatic 158, 3) := by decide +kernel
theorem dX9_isMeant_14 : decode cX9_isMeant 14 = .ok (.ireturn, 1) := by decide +kernel
theorem dX9_isMeant_15 : decode cX9_isMeant 15 = .ok (.iload_n 2, 1) := by decide +kernel
theorem dX9_isMeant_16 : decode cX9_isMeant 16 = .ok (.bipush 7, 2) := by decide +kernel
theorem dX9_isMeant_18 : decode cX9_isMeant 18 = .ok (.if_icmp .ge 61, 3) := by decide +kernel
theorem dX9_isMeant_21 : decode cX9_isMeant 21 = .ok (.aload_n 0, 1) := by decide +kernel
theorem dX9_isMeant_22 : decode cX9_isMeant 22 = .ok (.getfield 60, 3) := by decide +kernel
theorem dX9_isMeant_25 : decode cX9_isMeant 25 = .ok (.iload_n 1, 1) := by decide +kernel
theorem dX9_isMeant_26 : decode cX9_isMeant 26 = .ok (.iaload, 1) := by decide +kernel
theorem dX9_isMeant_27 : decode cX9_isMeant 27 = .ok (.iconst 4, 1) := by decide +kernel
theorem dX9_isMeant_28 : decode cX9_isMeant 28 = .ok (.irem, 1) := by decide +kernel
theorem dX9_isMeant_29 : decode cX9_isMeant 29 = .ok (.iconst 1, 1) := by decide +kernel
theorem dX9_isMeant_30 : decode cX9_isMeant 30 = .ok (.iconst 2, 1) := by decide +kernel
theorem dX9_isMeant_31 : decode cX9_isMeant 31 = .ok (.invokestatic 147, 3) := by decide +kernel
theorem dX9_isMeant_34 : decode cX9_isMeant 34 = .ok (.ifCond .eq 23, 3) := by decide +kernel
theorem dX9_isMeant_37 : decode cX9_isMeant 37 = .ok (.aload_n 0, 1) := by decide +kernel
theorem dX9_isMeant_38 : decode cX9_isMeant 38 = .ok (.getfield 60, 3) := by decide +kernel
theorem dX9_isMeant_41 : decode cX9_isMeant 41 = .ok (.iload_n 1, 1) := by decide +kernel
theorem dX9_isMeant_42 : decode cX9_isMeant 42 = .ok (.iaload, 1) := by decide +kernel
theorem dX9_isMeant_43 : decode cX9_isMeant 43 = .ok (.iconst 4, 1) := by decide +kernel
theorem dX9_isMeant_44 : decode cX9_isMeant 44 = .ok (.idiv, 1) := by decide +kernel
theorem dX9_isMeant_45 : decode cX9_isMeant 45 = .ok (.iconst 1, 1) := by decide +kernel
theorem dX9_isMeant_46 : decode cX9_isMeant 46 = .ok (.iconst 2, 1) := by decide +kernel
theorem dX9_isMeant_47 : decode cX9_isMeant 47 = .ok (.invokestatic 147, 3) := by decide +kernel
theorem dX9_isMeant_50 : decode cX9_isMeant 50 = .ok (.ifCond .eq 7, 3) := by decide +kernel
theorem dX9_isMeant_53 : decode cX9_isMeant 53 = .ok (.iconst 1, 1) := by decide +kernel
theorem dX9_isMeant_54 : decode cX9_isMeant 54 = .ok (.goto 4, 3) := by decide +kernel
theorem dX9_isMeant_57 : decode cX9_isMeant 57 = .ok (.iconst 0, 1) := by decide +kernel
theorem dX9_isMeant_58 : decode cX9_isMeant 58 = .ok (.istore_n 3, 1) := by decide +kernel
theorem dX9_isMeant_59 : decode cX9_isMeant 59 = .ok (.iload_n 3, 1) := by decide +kernel
theorem dX9_isMeant_60 : decode cX9_isMeant 60 = .ok (.iload_n 2, 1) := by decide +kernel
theorem dX9_isMeant_61 : decode cX9_isMeant 61 = .ok (.iconst 5, 1) := by decide +kernel
theorem dX9_isMeant_62 : decode cX9_isMeant 62 = .ok (.if_icmp .ne 7, 3) := by decide +kernel
theorem dX9_isMeant_65 : decode cX9_isMeant 65 = .ok (.iconst 1, 1) := by decide +kernel
theorem dX9_isMeant_66 : decode cX9_isMeant 66 = .ok (.goto 4, 3) := by decide +kernel
theorem dX9_isMeant_69 : decode cX9_isMeant 69 = .ok (.iconst 0, 1) := by decide +kernel
theorem dX9_isMeant_70 : decode cX9_isMeant 70 = .ok (.if_icmp .ne 7, 3) := by decide +kernel
theorem dX9_isMeant_73 : decode cX9_isMeant 73 = .ok (.iconst 1, 1) := by decide +kernel
theorem dX9_isMeant_74 : decode cX9_isMeant 74 = .ok (.goto 4, 3) := by decide +kernel
theorem dX9_isMeant_77 : decode cX9_isMeant 77 = .ok (.iconst 0, 1) := by decide +kernel
theorem dX9_isMeant_78 : decode cX9_isMeant 78 = .ok (.ireturn, 1) := by decide +kernel
theorem dX9_isMeant_79 : decode cX9_isMeant 79 = .ok (.aload_n 0, 1) := by decide +kernel
theorem dX9_isMeant_80 : decode cX9_isMeant 80 = .ok (.iload_n 1, 1) := by decide +kernel
theorem dX9_isMeant_81 : decode cX9_isMeant 81 = .ok (.iload_n 2, 1) := by decide +kernel
theorem dX9_isMeant_82 : decode cX9_isMeant 82 = .ok (.bipush 7, 2) := by decide +kernel
theorem dX9_isMeant_84 : decode cX9_isMeant 84 = .ok (.if_icmp .ne 7, 3) := by decide +kernel
theorem dX9_isMeant_87 : decode cX9_isMeant 87 = .ok (.iconst 3, 1) := by decide +kernel
theorem dX9_isMeant_88 : decode cX9_isMeant 88 = .ok (.goto 4, 3) := by decide +kernel
theorem dX9_isMeant_91 : decode cX9_isMeant 91 = .ok (.iconst 1, 1) := by decide +kernel
theorem dX9_isMeant_92 : decode cX9_isMeant 92 = .ok (.invokevirtual 162, 3) := by decide +kernel
theorem dX9_isMeant_95 : decode cX9_isMeant 95 = .ok (.istore_n 3, 1) := by decide +kernel
theorem dX9_isMeant_96 : decode cX9_isMeant 96 = .ok (.iload_n 3, 1) := by decide +kernel
theorem dX9_isMeant_97 : decode cX9_isMeant 97 = .ok (.ifCond .lt 22, 3) := by decide +kernel
theorem dX9_isMeant_100 : decode cX9_isMeant 100 = .ok (.aload_n 0, 1) := by decide +kernel
theorem dX9_isMeant_101 : decode cX9_isMeant 101 = .ok (.getfield 64, 3) := by decide +kernel
theorem dX9_isMeant_104 : decode cX9_isMeant 104 = .ok (.iload_n 3, 1) := by decide +kernel
theorem dX9_isMeant_105 : decode cX9_isMeant 105 = .ok (.iaload, 1) := by decide +kernel
theorem dX9_isMeant_106 : decode cX9_isMeant 106 = .ok (.aload_n 0, 1) := by decide +kernel
theorem dX9_isMeant_107 : decode cX9_isMeant 107 = .ok (.getfield 64, 3) := by decide +kernel
theorem dX9_isMeant_110 : decode cX9_isMeant 110 = .ok (.iload_n 1, 1) := by decide +kernel
theorem dX9_isMeant_111 : decode cX9_isMeant 111 = .ok (.iaload, 1) := by decide +kernel
theorem dX9_isMeant_112 : decode cX9_isMeant 112 = .ok (.if_icmp .ne 7, 3) := by decide +kernel
theorem dX9_isMeant_115 : decode cX9_isMeant 115 = .ok (.iconst 1, 1) := by decide +kernel
theorem dX9_isMeant_116 : decode cX9_isMeant 116 = .ok (.goto 4, 3) := by decide +kernel
theorem dX9_isMeant_119 : decode cX9_isMeant 119 = .ok (.iconst 0, 1) := by decide +kernel
theorem dX9_isMeant_120 : decode cX9_isMeant 120 = .ok (.ireturn, 1) := by decide +kernel
theorem dX9_meantBy_0 : decode cX9_meantBy 0 = .ok (.iconst 0, 1) := by decide +kernel
theorem dX9_meantBy_1 : decode cX9_meantBy 1 = .ok (.istore_n 2, 1) := by decide +kernel
theorem dX9_meantBy_2 : decode cX9_meantBy 2 = .ok (.iconst 0, 1) := by decide +kernel
theorem dX9_meantBy_3 : decode cX9_meantBy 3 = .ok (.istore_n 3, 1) := by decide +kernel
theorem dX9_meantBy_4 : decode cX9_meantBy 4 = .ok (.iload_n 3, 1) := by decide +kernel
theorem dX9_meantBy_5 : decode cX9_meantBy 5 = .ok (.bipush 8, 2) := by decide +kernel
theorem dX9_meantBy_7 : decode cX9_meantBy 7 = .ok (.if_icmp .ge 28, 3) := by decide +kernel
theorem dX9_meantBy_10 : decode cX9_meantBy 10 = .ok (.iload_n 2, 1) := by decide +kernel
theorem dX9_meantBy_11 : decode cX9_meantBy 11 = .ok (.aload_n 0, 1) := by decide +kernel
theorem dX9_meantBy_12 : decode cX9_meantBy 12 = .ok (.iload_n 3, 1) := by decide +kernel
theorem dX9_meantBy_13 : decode cX9_meantBy 13 = .ok (.iload_n 1, 1) := by decide +kernel
theorem dX9_meantBy_14 : decode cX9_meantBy 14 = .ok (.invokevirtual 165, 3) := by decide +kernel
theorem dX9_meantBy_17 : decode cX9_meantBy 17 = .ok (.ifCond .eq 9, 3) := by decide +kernel
theorem dX9_meantBy_20 : decode cX9_meantBy 20 = .ok (.iconst 1, 1) := by decide +kernel
theorem dX9_meantBy_21 : decode cX9_meantBy 21 = .ok (.iload_n 3, 1) := by decide +kernel
theorem dX9_meantBy_22 : decode cX9_meantBy 22 = .ok (.ishl, 1) := by decide +kernel
theorem dX9_meantBy_23 : decode cX9_meantBy 23 = .ok (.goto 4, 3) := by decide +kernel
theorem dX9_meantBy_26 : decode cX9_meantBy 26 = .ok (.iconst 0, 1) := by decide +kernel
theorem dX9_meantBy_27 : decode cX9_meantBy 27 = .ok (.ior, 1) := by decide +kernel
theorem dX9_meantBy_28 : decode cX9_meantBy 28 = .ok (.istore_n 2, 1) := by decide +kernel
theorem dX9_meantBy_29 : decode cX9_meantBy 29 = .ok (.iinc 3 1, 3) := by decide +kernel
theorem dX9_meantBy_32 : decode cX9_meantBy 32 = .ok (.goto (-28), 3) := by decide +kernel
theorem dX9_meantBy_35 : decode cX9_meantBy 35 = .ok (.iload_n 2, 1) := by decide +kernel
theorem dX9_meantBy_36 : decode cX9_meantBy 36 = .ok (.ireturn, 1) := by decide +kernel
theorem dX9_turns_0 : decode cX9_turns 0 = .ok (.aload_n 0, 1) := by decide +kernel
theorem dX9_turns_1 : decode cX9_turns 1 = .ok (.getfield 73, 3) := by decide +kernel
theorem dX9_turns_4 : decode cX9_turns 4 = .ok (.iload_n 1, 1) := by decide +kernel
theorem dX9_turns_5 : decode cX9_turns 5 = .ok (.aload_n 0, 1) := by decide +kernel
theorem dX9_turns_6 : decode cX9_turns 6 = .ok (.getfield 64, 3) := by decide +kernel
theorem dX9_turns_9 : decode cX9_turns 9 = .ok (.iload_n 1, 1) := by decide +kernel
theorem dX9_turns_10 : decode cX9_turns 10 = .ok (.iaload, 1) := by decide +kernel
theorem dX9_turns_11 : decode cX9_turns 11 = .ok (.iload_n 2, 1) := by decide +kernel
theorem dX9_turns_12 : decode cX9_turns 12 = .ok (.iadd, 1) := by decide +kernel
theorem dX9_turns_13 : decode cX9_turns 13 = .ok (.iconst 4, 1) := by decide +kernel
theorem dX9_turns_14 : decode cX9_turns 14 = .ok (.irem, 1) := by decide +kernel
theorem dX9_turns_15 : decode cX9_turns 15 = .ok (.iastore, 1) := by decide +kernel
theorem dX9_turns_16 : decode cX9_turns 16 = .ok (.return_, 1) := by decide +kernel
theorem dX9_goesTo_0 : decode cX9_goesTo 0 = .ok (.aload_n 0, 1) := by decide +kernel
theorem dX9_goesTo_1 : decode cX9_goesTo 1 = .ok (.getfield 79, 3) := by decide +kernel
theorem dX9_goesTo_4 : decode cX9_goesTo 4 = .ok (.iload_n 1, 1) := by decide +kernel
theorem dX9_goesTo_5 : decode cX9_goesTo 5 = .ok (.iconst 1, 1) := by decide +kernel
theorem dX9_goesTo_6 : decode cX9_goesTo 6 = .ok (.bastore, 1) := by decide +kernel
theorem dX9_goesTo_7 : decode cX9_goesTo 7 = .ok (.aload_n 0, 1) := by decide +kernel
theorem dX9_goesTo_8 : decode cX9_goesTo 8 = .ok (.getfield 70, 3) := by decide +kernel
theorem dX9_goesTo_11 : decode cX9_goesTo 11 = .ok (.iload_n 1, 1) := by decide +kernel
theorem dX9_goesTo_12 : decode cX9_goesTo 12 = .ok (.iload_n 2, 1) := by decide +kernel
theorem dX9_goesTo_13 : decode cX9_goesTo 13 = .ok (.iastore, 1) := by decide +kernel
theorem dX9_goesTo_14 : decode cX9_goesTo 14 = .ok (.return_, 1) := by decide +kernel
theorem dX9_mayPair_0 : decode cX9_mayPair 0 = .ok (.iload 4, 2) := by decide +kernel
theorem dX9_mayPair_2 : decode cX9_mayPair 2 = .ok (.ifCond .lt 22, 3) := by decide +kernel
theorem dX9_mayPair_5 : decode cX9_mayPair 5 = .ok (.iload_n 2, 1) := by decide +kernel
theorem dX9_mayPair_6 : decode cX9_mayPair 6 = .ok (.iload 4, 2) := by decide +kernel
theorem dX9_mayPair_8 : decode cX9_mayPair 8 = .ok (.invokestatic 158, 3) := by decide +kernel
theorem dX9_mayPair_11 : decode cX9_mayPair 11 = .ok (.ifCond .eq 13, 3) := by decide +kernel
theorem dX9_mayPair_14 : decode cX9_mayPair 14 = .ok (.aload_n 0, 1) := by decide +kernel
theorem dX9_mayPair_15 : decode cX9_mayPair 15 = .ok (.getfield 76, 3) := by decide +kernel
theorem dX9_mayPair_18 : decode cX9_mayPair 18 = .ok (.iload 4, 2) := by decide +kernel
theorem dX9_mayPair_20 : decode cX9_mayPair 20 = .ok (.iaload, 1) := by decide +kernel
theorem dX9_mayPair_21 : decode cX9_mayPair 21 = .ok (.ifCond .lt 5, 3) := by decide +kernel
theorem dX9_mayPair_24 : decode cX9_mayPair 24 = .ok (.iconst 0, 1) := by decide +kernel
theorem dX9_mayPair_25 : decode cX9_mayPair 25 = .ok (.ireturn, 1) := by decide +kernel
theorem dX9_mayPair_26 : decode cX9_mayPair 26 = .ok (.iload_n 1, 1) := by decide +kernel
theorem dX9_mayPair_27 : decode cX9_mayPair 27 = .ok (.bipush 8, 2) := by decide +kernel
theorem dX9_mayPair_29 : decode cX9_mayPair 29 = .ok (.if_icmp .lt 25, 3) := by decide +kernel
theorem dX9_mayPair_32 : decode cX9_mayPair 32 = .ok (.aload_n 0, 1) := by decide +kernel
theorem dX9_mayPair_33 : decode cX9_mayPair 33 = .ok (.getfield 64, 3) := by decide +kernel
theorem dX9_mayPair_36 : decode cX9_mayPair 36 = .ok (.iload 4, 2) := by decide +kernel
theorem dX9_mayPair_38 : decode cX9_mayPair 38 = .ok (.iaload, 1) := by decide +kernel
theorem dX9_mayPair_39 : decode cX9_mayPair 39 = .ok (.aload_n 0, 1) := by decide +kernel
theorem dX9_mayPair_40 : decode cX9_mayPair 40 = .ok (.getfield 64, 3) := by decide +kernel
theorem dX9_mayPair_43 : decode cX9_mayPair 43 = .ok (.iload_n 3, 1) := by decide +kernel
theorem dX9_mayPair_44 : decode cX9_mayPair 44 = .ok (.iaload, 1) := by decide +kernel
theorem dX9_mayPair_45 : decode cX9_mayPair 45 = .ok (.if_icmp .ne 7, 3) := by decide +kernel
theorem dX9_mayPair_48 : decode cX9_mayPair 48 = .ok (.iconst 1, 1) := by decide +kernel
theorem dX9_mayPair_49 : decode cX9_mayPair 49 = .ok (.goto 4, 3) := by decide +kernel
theorem dX9_mayPair_52 : decode cX9_mayPair 52 = .ok (.iconst 0, 1) := by decide +kernel
theorem dX9_mayPair_53 : decode cX9_mayPair 53 = .ok (.ireturn, 1) := by decide +kernel
theorem dX9_mayPair_54 : decode cX9_mayPair 54 = .ok (.aload_n 0, 1) := by decide +kernel
theorem dX9_mayPair_55 : decode cX9_mayPair 55 = .ok (.getfield 64, 3) := by decide +kernel
theorem dX9_mayPair_58 : decode cX9_mayPair 58 = .ok (.iload 4, 2) := by decide +kernel
theorem dX9_mayPair_60 : decode cX9_mayPair 60 = .ok (.iaload, 1) := by decide +kernel
theorem dX9_mayPair_61 : decode cX9_mayPair 61 = .ok (.aload_n 0, 1) := by decide +kernel
theorem dX9_mayPair_62 : decode cX9_mayPair 62 = .ok (.getfield 64, 3) := by decide +kernel
theorem dX9_mayPair_65 : decode cX9_mayPair 65 = .ok (.iload_n 3, 1) := by decide +kernel
theorem dX9_mayPair_66 : decode cX9_mayPair 66 = .ok (.iaload, 1) := by decide +kernel
theorem dX9_mayPair_67 : decode cX9_mayPair 67 = .ok (.iconst 2, 1) := by decide +kernel
theorem dX9_mayPair_68 : decode cX9_mayPair 68 = .ok (.iadd, 1) := by decide +kernel
theorem dX9_mayPair_69 : decode cX9_mayPair 69 = .ok (.iconst 4, 1) := by decide +kernel
theorem dX9_mayPair_70 : decode cX9_mayPair 70 = .ok (.irem, 1) := by decide +kernel
theorem dX9_mayPair_71 : decode cX9_mayPair 71 = .ok (.if_icmp .ne 23, 3) := by decide +kernel
theorem dX9_mayPair_74 : decode cX9_mayPair 74 = .ok (.iload_n 1, 1) := by decide +kernel
theorem dX9_mayPair_75 : decode cX9_mayPair 75 = .ok (.bipush 6, 2) := by decide +kernel
theorem dX9_mayPair_77 : decode cX9_mayPair 77 = .ok (.if_icmp .ne 13, 3) := by decide +kernel
theorem dX9_mayPair_80 : decode cX9_mayPair 80 = .ok (.iload_n 3, 1) := by decide +kernel
theorem dX9_mayPair_81 : decode cX9_mayPair 81 = .ok (.iconst 2, 1) := by decide +kernel
theorem dX9_mayPair_82 : decode cX9_mayPair 82 = .ok (.irem, 1) := by decide +kernel
theorem dX9_mayPair_83 : decode cX9_mayPair 83 = .ok (.iload 4, 2) := by decide +kernel
theorem dX9_mayPair_85 : decode cX9_mayPair 85 = .ok (.iconst 2, 1) := by decide +kernel
theorem dX9_mayPair_86 : decode cX9_mayPair 86 = .ok (.irem, 1) := by decide +kernel
theorem dX9_mayPair_87 : decode cX9_mayPair 87 = .ok (.if_icmp .eq 7, 3) := by decide +kernel
theorem dX9_mayPair_90 : decode cX9_mayPair 90 = .ok (.iconst 1, 1) := by decide +kernel
theorem dX9_mayPair_91 : decode cX9_mayPair 91 = .ok (.goto 4, 3) := by decide +kernel
theorem dX9_mayPair_94 : decode cX9_mayPair 94 = .ok (.iconst 0, 1) := by decide +kernel
theorem dX9_mayPair_95 : decode cX9_mayPair 95 = .ok (.ireturn, 1) := by decide +kernel
theorem dX9_mateOf_0 : decode cX9_mateOf 0 = .ok (.iload_n 1, 1) := by decide +kernel
theorem dX9_mateOf_1 : decode cX9_mateOf 1 = .ok (.bipush 8, 2) := by decide +kernel
theorem dX9_mateOf_3 : decode cX9_mateOf 3 = .ok (.if_icmp .ge 31, 3) := by decide +kernel
theorem dX9_mateOf_6 : decode cX9_mateOf 6 = .ok (.aload_n 0, 1) := by decide +kernel
theorem dX9_mateOf_7 : decode cX9_mateOf 7 = .ok (.iload_n 1, 1) := by decide +kernel
theorem dX9_mateOf_8 : decode cX9_mateOf 8 = .ok (.iload_n 2, 1) := by decide +kernel
theorem dX9_mateOf_9 : decode cX9_mateOf 9 = .ok (.iload_n 3, 1) := by decide +kernel
theorem dX9_mateOf_10 : decode cX9_mateOf 10 = .ok (.aload_n 0, 1) := by decide +kernel
theorem dX9_mateOf_11 : decode cX9_mateOf 11 = .ok (.iload_n 3, 1) := by decide +kernel
theorem dX9_mateOf_12 : decode cX9_mateOf 12 = .ok (.iconst 0, 1) := by decide +kernel
theorem dX9_mateOf_13 : decode cX9_mateOf 13 = .ok (.invokevirtual 162, 3) := by decide +kernel
theorem dX9_mateOf_16 : decode cX9_mateOf 16 = .ok (.invokevirtual 168, 3) := by decide +kernel
theorem dX9_mateOf_19 : decode cX9_mateOf 19 = .ok (.ifCond .eq 12, 3) := by decide +kernel
theorem dX9_mateOf_22 : decode cX9_mateOf 22 = .ok (.aload_n 0, 1) := by decide +kernel
theorem dX9_mateOf_23 : decode cX9_mateOf 23 = .ok (.iload_n 3, 1) := by decide +kernel
theorem dX9_mateOf_24 : decode cX9_mateOf 24 = .ok (.iconst 0, 1) := by decide +kernel
theorem dX9_mateOf_25 : decode cX9_mateOf 25 = .ok (.invokevirtual 162, 3) := by decide +kernel
theorem dX9_mateOf_28 : decode cX9_mateOf 28 = .ok (.goto 5, 3) := by decide +kernel
theorem dX9_mateOf_31 : decode cX9_mateOf 31 = .ok (.bipush (-2), 2) := by decide +kernel
theorem dX9_mateOf_33 : decode cX9_mateOf 33 = .ok (.ireturn, 1) := by decide +kernel
theorem dX9_mateOf_34 : decode cX9_mateOf 34 = .ok (.aload_n 0, 1) := by decide +kernel
theorem dX9_mateOf_35 : decode cX9_mateOf 35 = .ok (.iload_n 1, 1) := by decide +kernel
theorem dX9_mateOf_36 : decode cX9_mateOf 36 = .ok (.iload_n 2, 1) := by decide +kernel
theorem dX9_mateOf_37 : decode cX9_mateOf 37 = .ok (.iload_n 3, 1) := by decide +kernel
theorem dX9_mateOf_38 : decode cX9_mateOf 38 = .ok (.aload_n 0, 1) := by decide +kernel
theorem dX9_mateOf_39 : decode cX9_mateOf 39 = .ok (.iload_n 3, 1) := by decide +kernel
theorem dX9_mateOf_40 : decode cX9_mateOf 40 = .ok (.iconst 1, 1) := by decide +kernel
theorem dX9_mateOf_41 : decode cX9_mateOf 41 = .ok (.invokevirtual 162, 3) := by decide +kernel
theorem dX9_mateOf_44 : decode cX9_mateOf 44 = .ok (.invokevirtual 168, 3) := by decide +kernel
theorem dX9_mateOf_47 : decode cX9_mateOf 47 = .ok (.ifCond .eq 10, 3) := by decide +kernel
theorem dX9_mateOf_50 : decode cX9_mateOf 50 = .ok (.aload_n 0, 1) := by decide +kernel
theorem dX9_mateOf_51 : decode cX9_mateOf 51 = .ok (.iload_n 3, 1) := by decide +kernel
theorem dX9_mateOf_52 : decode cX9_mateOf 52 = .ok (.iconst 1, 1) := by decide +kernel
theorem dX9_mateOf_53 : decode cX9_mateOf 53 = .ok (.invokevirtual 162, 3) := by decide +kernel
theorem dX9_mateOf_56 : decode cX9_mateOf 56 = .ok (.ireturn, 1) := by decide +kernel
theorem dX9_mateOf_57 : decode cX9_mateOf 57 = .ok (.aload_n 0, 1) := by decide +kernel
theorem dX9_mateOf_58 : decode cX9_mateOf 58 = .ok (.iload_n 1, 1) := by decide +kernel
theorem dX9_mateOf_59 : decode cX9_mateOf 59 = .ok (.iload_n 2, 1) := by decide +kernel
theorem dX9_mateOf_60 : decode cX9_mateOf 60 = .ok (.iload_n 3, 1) := by decide +kernel
theorem dX9_mateOf_61 : decode cX9_mateOf 61 = .ok (.aload_n 0, 1) := by decide +kernel
theorem dX9_mateOf_62 : decode cX9_mateOf 62 = .ok (.iload_n 3, 1) := by decide +kernel
theorem dX9_mateOf_63 : decode cX9_mateOf 63 = .ok (.iconst 3, 1) := by decide +kernel
theorem dX9_mateOf_64 : decode cX9_mateOf 64 = .ok (.invokevirtual 162, 3) := by decide +kernel
theorem dX9_mateOf_67 : decode cX9_mateOf 67 = .ok (.invokevirtual 168, 3) := by decide +kernel
theorem dX9_mateOf_70 : decode cX9_mateOf 70 = .ok (.ifCond .eq 12, 3) := by decide +kernel
theorem dX9_mateOf_73 : decode cX9_mateOf 73 = .ok (.aload_n 0, 1) := by decide +kernel
theorem dX9_mateOf_74 : decode cX9_mateOf 74 = .ok (.iload_n 3, 1) := by decide +kernel
theorem dX9_mateOf_75 : decode cX9_mateOf 75 = .ok (.iconst 3, 1) := by decide +kernel
theorem dX9_mateOf_76 : decode cX9_mateOf 76 = .ok (.invokevirtual 162, 3) := by decide +kernel
theorem dX9_mateOf_79 : decode cX9_mateOf 79 = .ok (.goto 5, 3) := by decide +kernel
theorem dX9_mateOf_82 : decode cX9_mateOf 82 = .ok (.bipush (-2), 2) := by decide +kernel
theorem dX9_mateOf_84 : decode cX9_mateOf 84 = .ok (.ireturn, 1) := by decide +kernel
theorem dX9_folds_0 : decode cX9_folds 0 = .ok (.aload_n 0, 1) := by decide +kernel
theorem dX9_folds_1 : decode cX9_folds 1 = .ok (.iload_n 1, 1) := by decide +kernel
theorem dX9_folds_2 : decode cX9_folds 2 = .ok (.iconst 1, 1) := by decide +kernel
theorem dX9_folds_3 : decode cX9_folds 3 = .ok (.invokevirtual 162, 3) := by decide +kernel
theorem dX9_folds_6 : decode cX9_folds 6 = .ok (.iload_n 2, 1) := by decide +kernel
theorem dX9_folds_7 : decode cX9_folds 7 = .ok (.if_icmp .ne 7, 3) := by decide +kernel
theorem dX9_folds_10 : decode cX9_folds 10 = .ok (.iload_n 2, 1) := by decide +kernel
theorem dX9_folds_11 : decode cX9_folds 11 = .ok (.goto 4, 3) := by decide +kernel
theorem dX9_folds_14 : decode cX9_folds 14 = .ok (.iload_n 1, 1) := by decide +kernel
theorem dX9_folds_15 : decode cX9_folds 15 = .ok (.istore_n 3, 1) := by decide +kernel
theorem dX9_folds_16 : decode cX9_folds 16 = .ok (.iload_n 3, 1) := by decide +kernel
theorem dX9_folds_17 : decode cX9_folds 17 = .ok (.iload_n 1, 1) := by decide +kernel
theorem dX9_folds_18 : decode cX9_folds 18 = .ok (.if_icmp .ne 7, 3) := by decide +kernel
theorem dX9_folds_21 : decode cX9_folds 21 = .ok (.iload_n 2, 1) := by decide +kernel
theorem dX9_folds_22 : decode cX9_folds 22 = .ok (.goto 4, 3) := by decide +kernel
theorem dX9_folds_25 : decode cX9_folds 25 = .ok (.iload_n 1, 1) := by decide +kernel
theorem dX9_folds_26 : decode cX9_folds 26 = .ok (.istore 4, 2) := by decide +kernel
theorem dX9_folds_28 : decode cX9_folds 28 = .ok (.aload_n 0, 1) := by decide +kernel
theorem dX9_folds_29 : decode cX9_folds 29 = .ok (.iload_n 3, 1) := by decide +kernel
theorem dX9_folds_30 : decode cX9_folds 30 = .ok (.aload_n 0, 1) := by decide +kernel
theorem dX9_folds_31 : decode cX9_folds 31 = .ok (.getfield 60, 3) := by decide +kernel
theorem dX9_folds_34 : decode cX9_folds 34 = .ok (.iload 4, 2) := by decide +kernel
theorem dX9_folds_36 : decode cX9_folds 36 = .ok (.iaload, 1) := by decide +kernel
theorem dX9_folds_37 : decode cX9_folds 37 = .ok (.aload_n 0, 1) := by decide +kernel
theorem dX9_folds_38 : decode cX9_folds 38 = .ok (.getfield 64, 3) := by decide +kernel
theorem dX9_folds_41 : decode cX9_folds 41 = .ok (.iload 4, 2) := by decide +kernel
theorem dX9_folds_43 : decode cX9_folds 43 = .ok (.iaload, 1) := by decide +kernel
theorem dX9_folds_44 : decode cX9_folds 44 = .ok (.invokestatic 151, 3) := by decide +kernel
theorem dX9_folds_47 : decode cX9_folds 47 = .ok (.invokevirtual 172, 3) := by decide +kernel
theorem dX9_folds_50 : decode cX9_folds 50 = .ok (.aload_n 0, 1) := by decide +kernel
theorem dX9_folds_51 : decode cX9_folds 51 = .ok (.iload_n 3, 1) := by decide +kernel
theorem dX9_folds_52 : decode cX9_folds 52 = .ok (.iconst 2, 1) := by decide +kernel
theorem dX9_folds_53 : decode cX9_folds 53 = .ok (.invokevirtual 176, 3) := by decide +kernel
theorem dX9_folds_56 : decode cX9_folds 56 = .ok (.return_, 1) := by decide +kernel
theorem dX9_pairs_0 : decode cX9_pairs 0 = .ok (.iconst 0, 1) := by decide +kernel
theorem dX9_pairs_1 : decode cX9_pairs 1 = .ok (.istore_n 3, 1) := by decide +kernel
theorem dX9_pairs_2 : decode cX9_pairs 2 = .ok (.iload_n 3, 1) := by decide +kernel
theorem dX9_pairs_3 : decode cX9_pairs 3 = .ok (.bipush 8, 2) := by decide +kernel
theorem dX9_pairs_5 : decode cX9_pairs 5 = .ok (.if_icmp .ge 189, 3) := by decide +kernel
theorem dX9_pairs_8 : decode cX9_pairs 8 = .ok (.iload_n 2, 1) := by decide +kernel
theorem dX9_pairs_9 : decode cX9_pairs 9 = .ok (.iload_n 3, 1) := by decide +kernel
theorem dX9_pairs_10 : decode cX9_pairs 10 = .ok (.invokestatic 158, 3) := by decide +kernel
theorem dX9_pairs_13 : decode cX9_pairs 13 = .ok (.ifCond .eq 175, 3) := by decide +kernel
theorem dX9_pairs_16 : decode cX9_pairs 16 = .ok (.aload_n 0, 1) := by decide +kernel
theorem dX9_pairs_17 : decode cX9_pairs 17 = .ok (.getfield 76, 3) := by decide +kernel
theorem dX9_pairs_20 : decode cX9_pairs 20 = .ok (.iload_n 3, 1) := by decide +kernel
theorem dX9_pairs_21 : decode cX9_pairs 21 = .ok (.iaload, 1) := by decide +kernel
theorem dX9_pairs_22 : decode cX9_pairs 22 = .ok (.ifCond .lt 6, 3) := by decide +kernel
theorem dX9_pairs_25 : decode cX9_pairs 25 = .ok (.goto 163, 3) := by decide +kernel
theorem dX9_pairs_28 : decode cX9_pairs 28 = .ok (.aload_n 0, 1) := by decide +kernel
theorem dX9_pairs_29 : decode cX9_pairs 29 = .ok (.iload_n 1, 1) := by decide +kernel
theorem dX9_pairs_30 : decode cX9_pairs 30 = .ok (.iload_n 2, 1) := by decide +kernel
theorem dX9_pairs_31 : decode cX9_pairs 31 = .ok (.iload_n 3, 1) := by decide +kernel
theorem dX9_pairs_32 : decode cX9_pairs 32 = .ok (.invokevirtual 179, 3) := by decide +kernel
theorem dX9_pairs_35 : decode cX9_pairs 35 = .ok (.istore 4, 2) := by decide +kernel
theorem dX9_pairs_37 : decode cX9_pairs 37 = .ok (.iload 4, 2) := by decide +kernel
theorem dX9_pairs_39 : decode cX9_pairs 39 = .ok (.ifCond .ge 6, 3) := by decide +kernel
theorem dX9_pairs_42 : decode cX9_pairs 42 = .ok (.goto 146, 3) := by decide +kernel
theorem dX9_pairs_45 : decode cX9_pairs 45 = .ok (.aload_n 0, 1) := by decide +kernel
theorem dX9_pairs_46 : decode cX9_pairs 46 = .ok (.getfield 76, 3) := by decide +kernel
theorem dX9_pairs_49 : decode cX9_pairs 49 = .ok (.iload_n 3, 1) := by decide +kernel
theorem dX9_pairs_50 : decode cX9_pairs 50 = .ok (.iload 4, 2) := by decide +kernel
theorem dX9_pairs_52 : decode cX9_pairs 52 = .ok (.iastore, 1) := by decide +kernel
theorem dX9_pairs_53 : decode cX9_pairs 53 = .ok (.aload_n 0, 1) := by decide +kernel
theorem dX9_pairs_54 : decode cX9_pairs 54 = .ok (.getfield 76, 3) := by decide +kernel
theorem dX9_pairs_57 : decode cX9_pairs 57 = .ok (.iload 4, 2) := by decide +kernel
theorem dX9_pairs_59 : decode cX9_pairs 59 = .ok (.iload_n 3, 1) := by decide +kernel
theorem dX9_pairs_60 : decode cX9_pairs 60 = .ok (.iastore, 1) := by decide +kernel
theorem dX9_pairs_61 : decode cX9_pairs 61 = .ok (.aload_n 0, 1) := by decide +kernel
theorem dX9_pairs_62 : decode cX9_pairs 62 = .ok (.dup, 1) := by decide +kernel
theorem dX9_pairs_63 : decode cX9_pairs 63 = .ok (.getfield 183, 3) := by decide +kernel
theorem dX9_pairs_66 : decode cX9_pairs 66 = .ok (.iconst 1, 1) := by decide +kernel
theorem dX9_pairs_67 : decode cX9_pairs 67 = .ok (.iadd, 1) := by decide +kernel
theorem dX9_pairs_68 : decode cX9_pairs 68 = .ok (.putfield 183, 3) := by decide +kernel
theorem dX9_pairs_71 : decode cX9_pairs 71 = .ok (.iload_n 1, 1) := by decide +kernel
theorem dX9_pairs_72 : decode cX9_pairs 72 = .ok (.bipush 10, 2) := by decide +kernel
theorem dX9_pairs_74 : decode cX9_pairs 74 = .ok (.if_icmp .ne 13, 3) := by decide +kernel
theorem dX9_pairs_77 : decode cX9_pairs 77 = .ok (.aload_n 0, 1) := by decide +kernel
theorem dX9_pairs_78 : decode cX9_pairs 78 = .ok (.iload_n 3, 1) := by decide +kernel
theorem dX9_pairs_79 : decode cX9_pairs 79 = .ok (.iload 4, 2) := by decide +kernel
theorem dX9_pairs_81 : decode cX9_pairs 81 = .ok (.invokevirtual 186, 3) := by decide +kernel
theorem dX9_pairs_84 : decode cX9_pairs 84 = .ok (.goto 104, 3) := by decide +kernel
theorem dX9_pairs_87 : decode cX9_pairs 87 = .ok (.aload_n 0, 1) := by decide +kernel
theorem dX9_pairs_88 : decode cX9_pairs 88 = .ok (.iload_n 3, 1) := by decide +kernel
theorem dX9_pairs_89 : decode cX9_pairs 89 = .ok (.aload_n 0, 1) := by decide +kernel
theorem dX9_pairs_90 : decode cX9_pairs 90 = .ok (.getfield 60, 3) := by decide +kernel
theorem dX9_pairs_93 : decode cX9_pairs 93 = .ok (.iload 4, 2) := by decide +kernel
theorem dX9_pairs_95 : decode cX9_pairs 95 = .ok (.iaload, 1) := by decide +kernel
theorem dX9_pairs_96 : decode cX9_pairs 96 = .ok (.invokevirtual 172, 3) := by decide +kernel
theorem dX9_pairs_99 : decode cX9_pairs 99 = .ok (.aload_n 0, 1) := by decide +kernel
theorem dX9_pairs_100 : decode cX9_pairs 100 = .ok (.iload 4, 2) := by decide +kernel
theorem dX9_pairs_102 : decode cX9_pairs 102 = .ok (.aload_n 0, 1) := by decide +kernel
theorem dX9_pairs_103 : decode cX9_pairs 103 = .ok (.getfield 60, 3) := by decide +kernel
theorem dX9_pairs_106 : decode cX9_pairs 106 = .ok (.iload_n 3, 1) := by decide +kernel
theorem dX9_pairs_107 : decode cX9_pairs 107 = .ok (.iaload, 1) := by decide +kernel
theorem dX9_pairs_108 : decode cX9_pairs 108 = .ok (.invokevirtual 172, 3) := by decide +kernel
theorem dX9_pairs_111 : decode cX9_pairs 111 = .ok (.iload_n 1, 1) := by decide +kernel
theorem dX9_pairs_112 : decode cX9_pairs 112 = .ok (.bipush 6, 2) := by decide +kernel
theorem dX9_pairs_114 : decode cX9_pairs 114 = .ok (.if_icmp .eq 9, 3) := by decide +kernel
theorem dX9_pairs_117 : decode cX9_pairs 117 = .ok (.iload_n 1, 1) := by decide +kernel
theorem dX9_pairs_118 : decode cX9_pairs 118 = .ok (.bipush 7, 2) := by decide +kernel
theorem dX9_pairs_120 : decode cX9_pairs 120 = .ok (.if_icmp .ne 49, 3) := by decide +kernel
theorem dX9_pairs_123 : decode cX9_pairs 123 = .ok (.aload_n 0, 1) := by decide +kernel
theorem dX9_pairs_124 : decode cX9_pairs 124 = .ok (.iload_n 3, 1) := by decide +kernel
theorem dX9_pairs_125 : decode cX9_pairs 125 = .ok (.iload_n 1, 1) := by decide +kernel
theorem dX9_pairs_126 : decode cX9_pairs 126 = .ok (.bipush 7, 2) := by decide +kernel
theorem dX9_pairs_128 : decode cX9_pairs 128 = .ok (.if_icmp .eq 9, 3) := by decide +kernel
theorem dX9_pairs_131 : decode cX9_pairs 131 = .ok (.iload_n 3, 1) := by decide +kernel
theorem dX9_pairs_132 : decode cX9_pairs 132 = .ok (.iconst 2, 1) := by decide +kernel
theorem dX9_pairs_133 : decode cX9_pairs 133 = .ok (.irem, 1) := by decide +kernel
theorem dX9_pairs_134 : decode cX9_pairs 134 = .ok (.ifCond .ne 7, 3) := by decide +kernel
theorem dX9_pairs_137 : decode cX9_pairs 137 = .ok (.iconst 1, 1) := by decide +kernel
theorem dX9_pairs_138 : decode cX9_pairs 138 = .ok (.goto 4, 3) := by decide +kernel
theorem dX9_pairs_141 : decode cX9_pairs 141 = .ok (.iconst 3, 1) := by decide +kernel
theorem dX9_pairs_142 : decode cX9_pairs 142 = .ok (.invokevirtual 176, 3) := by decide +kernel
theorem dX9_pairs_145 : decode cX9_pairs 145 = .ok (.aload_n 0, 1) := by decide +kernel
theorem dX9_pairs_146 : decode cX9_pairs 146 = .ok (.iload 4, 2) := by decide +kernel
theorem dX9_pairs_148 : decode cX9_pairs 148 = .ok (.iload_n 1, 1) := by decide +kernel
theorem dX9_pairs_149 : decode cX9_pairs 149 = .ok (.bipush 7, 2) := by decide +kernel
theorem dX9_pairs_151 : decode cX9_pairs 151 = .ok (.if_icmp .eq 10, 3) := by decide +kernel
theorem dX9_pairs_154 : decode cX9_pairs 154 = .ok (.iload 4, 2) := by decide +kernel
theorem dX9_pairs_156 : decode cX9_pairs 156 = .ok (.iconst 2, 1) := by decide +kernel
theorem dX9_pairs_157 : decode cX9_pairs 157 = .ok (.irem, 1) := by decide +kernel
theorem dX9_pairs_158 : decode cX9_pairs 158 = .ok (.ifCond .ne 7, 3) := by decide +kernel
theorem dX9_pairs_161 : decode cX9_pairs 161 = .ok (.iconst 1, 1) := by decide +kernel
theorem dX9_pairs_162 : decode cX9_pairs 162 = .ok (.goto 4, 3) := by decide +kernel
theorem dX9_pairs_165 : decode cX9_pairs 165 = .ok (.iconst 3, 1) := by decide +kernel
theorem dX9_pairs_166 : decode cX9_pairs 166 = .ok (.invokevirtual 176, 3) := by decide +kernel
theorem dX9_pairs_169 : decode cX9_pairs 169 = .ok (.iload_n 1, 1) := by decide +kernel
theorem dX9_pairs_170 : decode cX9_pairs 170 = .ok (.bipush 9, 2) := by decide +kernel
theorem dX9_pairs_172 : decode cX9_pairs 172 = .ok (.if_icmp .ne 16, 3) := by decide +kernel
theorem dX9_pairs_175 : decode cX9_pairs 175 = .ok (.aload_n 0, 1) := by decide +kernel
theorem dX9_pairs_176 : decode cX9_pairs 176 = .ok (.iload_n 3, 1) := by decide +kernel
theorem dX9_pairs_177 : decode cX9_pairs 177 = .ok (.iconst 2, 1) := by decide +kernel
theorem dX9_pairs_178 : decode cX9_pairs 178 = .ok (.invokevirtual 176, 3) := by decide +kernel
theorem dX9_pairs_181 : decode cX9_pairs 181 = .ok (.aload_n 0, 1) := by decide +kernel
theorem dX9_pairs_182 : decode cX9_pairs 182 = .ok (.iload 4, 2) := by decide +kernel
theorem dX9_pairs_184 : decode cX9_pairs 184 = .ok (.iconst 2, 1) := by decide +kernel
theorem dX9_pairs_185 : decode cX9_pairs 185 = .ok (.invokevirtual 176, 3) := by decide +kernel
theorem dX9_pairs_188 : decode cX9_pairs 188 = .ok (.iinc 3 1, 3) := by decide +kernel
theorem dX9_pairs_191 : decode cX9_pairs 191 = .ok (.goto (-189), 3) := by decide +kernel
theorem dX9_pairs_194 : decode cX9_pairs 194 = .ok (.return_, 1) := by decide +kernel
theorem dX9_placeOf_0 : decode cX9_placeOf 0 = .ok (.iconst 0, 1) := by decide +kernel
theorem dX9_placeOf_1 : decode cX9_placeOf 1 = .ok (.istore_n 1, 1) := by decide +kernel
theorem dX9_placeOf_2 : decode cX9_placeOf 2 = .ok (.iload_n 1, 1) := by decide +kernel
theorem dX9_placeOf_3 : decode cX9_placeOf 3 = .ok (.bipush 8, 2) := by decide +kernel
theorem dX9_placeOf_5 : decode cX9_placeOf 5 = .ok (.if_icmp .ge 20, 3) := by decide +kernel
theorem dX9_placeOf_8 : decode cX9_placeOf 8 = .ok (.getstatic 130, 3) := by decide +kernel
theorem dX9_placeOf_11 : decode cX9_placeOf 11 = .ok (.iload_n 1, 1) := by decide +kernel
theorem dX9_placeOf_12 : decode cX9_placeOf 12 = .ok (.iaload, 1) := by decide +kernel
theorem dX9_placeOf_13 : decode cX9_placeOf 13 = .ok (.iload_n 0, 1) := by decide +kernel
theorem dX9_placeOf_14 : decode cX9_placeOf 14 = .ok (.if_icmp .ne 5, 3) := by decide +kernel
theorem dX9_placeOf_17 : decode cX9_placeOf 17 = .ok (.iload_n 1, 1) := by decide +kernel
theorem dX9_placeOf_18 : decode cX9_placeOf 18 = .ok (.ireturn, 1) := by decide +kernel
theorem dX9_placeOf_19 : decode cX9_placeOf 19 = .ok (.iinc 1 1, 3) := by decide +kernel
theorem dX9_placeOf_22 : decode cX9_placeOf 22 = .ok (.goto (-20), 3) := by decide +kernel
theorem dX9_placeOf_25 : decode cX9_placeOf 25 = .ok (.bipush (-2), 2) := by decide +kernel
theorem dX9_placeOf_27 : decode cX9_placeOf 27 = .ok (.ireturn, 1) := by decide +kernel
theorem dX9_rings_0 : decode cX9_rings 0 = .ok (.aload_n 0, 1) := by decide +kernel
theorem dX9_rings_1 : decode cX9_rings 1 = .ok (.bipush 8, 2) := by decide +kernel
theorem dX9_rings_3 : decode cX9_rings 3 = .ok (.putfield 183, 3) := by decide +kernel
theorem dX9_rings_6 : decode cX9_rings 6 = .ok (.iconst 0, 1) := by decide +kernel
theorem dX9_rings_7 : decode cX9_rings 7 = .ok (.istore_n 2, 1) := by decide +kernel
theorem dX9_rings_8 : decode cX9_rings 8 = .ok (.iload_n 2, 1) := by decide +kernel
theorem dX9_rings_9 : decode cX9_rings 9 = .ok (.bipush 8, 2) := by decide +kernel
theorem dX9_rings_11 : decode cX9_rings 11 = .ok (.if_icmp .ge 67, 3) := by decide +kernel
theorem dX9_rings_14 : decode cX9_rings 14 = .ok (.aload_n 0, 1) := by decide +kernel
theorem dX9_rings_15 : decode cX9_rings 15 = .ok (.getfield 60, 3) := by decide +kernel
theorem dX9_rings_18 : decode cX9_rings 18 = .ok (.iload_n 2, 1) := by decide +kernel
theorem dX9_rings_19 : decode cX9_rings 19 = .ok (.iaload, 1) := by decide +kernel
theorem dX9_rings_20 : decode cX9_rings 20 = .ok (.invokestatic 189, 3) := by decide +kernel
theorem dX9_rings_23 : decode cX9_rings 23 = .ok (.istore_n 3, 1) := by decide +kernel
theorem dX9_rings_24 : decode cX9_rings 24 = .ok (.iload_n 3, 1) := by decide +kernel
theorem dX9_rings_25 : decode cX9_rings 25 = .ok (.ifCond .lt 10, 3) := by decide +kernel
theorem dX9_rings_28 : decode cX9_rings 28 = .ok (.iload_n 1, 1) := by decide +kernel
theorem dX9_rings_29 : decode cX9_rings 29 = .ok (.sipush 255, 3) := by decide +kernel
theorem dX9_rings_32 : decode cX9_rings 32 = .ok (.if_icmp .eq 9, 3) := by decide +kernel
theorem dX9_rings_35 : decode cX9_rings 35 = .ok (.aload_n 0, 1) := by decide +kernel
theorem dX9_rings_36 : decode cX9_rings 36 = .ok (.iconst 5, 1) := by decide +kernel
theorem dX9_rings_37 : decode cX9_rings 37 = .ok (.putfield 193, 3) := by decide +kernel
theorem dX9_rings_40 : decode cX9_rings 40 = .ok (.return_, 1) := by decide +kernel
theorem dX9_rings_41 : decode cX9_rings 41 = .ok (.aload_n 0, 1) := by decide +kernel
theorem dX9_rings_42 : decode cX9_rings 42 = .ok (.iload_n 2, 1) := by decide +kernel
theorem dX9_rings_43 : decode cX9_rings 43 = .ok (.getstatic 130, 3) := by decide +kernel
theorem dX9_rings_46 : decode cX9_rings 46 = .ok (.iload_n 3, 1) := by decide +kernel
theorem dX9_rings_47 : decode cX9_rings 47 = .ok (.iconst 1, 1) := by decide +kernel
theorem dX9_rings_48 : decode cX9_rings 48 = .ok (.iadd, 1) := by decide +kernel
theorem dX9_rings_49 : decode cX9_rings 49 = .ok (.bipush 8, 2) := by decide +kernel
theorem dX9_rings_51 : decode cX9_rings 51 = .ok (.irem, 1) := by decide +kernel
theorem dX9_rings_52 : decode cX9_rings 52 = .ok (.iaload, 1) := by decide +kernel
theorem dX9_rings_53 : decode cX9_rings 53 = .ok (.invokevirtual 172, 3) := by decide +kernel
theorem dX9_rings_56 : decode cX9_rings 56 = .ok (.aload_n 0, 1) := by decide +kernel
theorem dX9_rings_57 : decode cX9_rings 57 = .ok (.getfield 73, 3) := by decide +kernel
theorem dX9_rings_60 : decode cX9_rings 60 = .ok (.iload_n 2, 1) := by decide +kernel
theorem dX9_rings_61 : decode cX9_rings 61 = .ok (.getstatic 133, 3) := by decide +kernel
theorem dX9_rings_64 : decode cX9_rings 64 = .ok (.iload_n 3, 1) := by decide +kernel
theorem dX9_rings_65 : decode cX9_rings 65 = .ok (.iconst 1, 1) := by decide +kernel
theorem dX9_rings_66 : decode cX9_rings 66 = .ok (.iadd, 1) := by decide +kernel
theorem dX9_rings_67 : decode cX9_rings 67 = .ok (.bipush 8, 2) := by decide +kernel
theorem dX9_rings_69 : decode cX9_rings 69 = .ok (.irem, 1) := by decide +kernel
theorem dX9_rings_70 : decode cX9_rings 70 = .ok (.iaload, 1) := by decide +kernel
theorem dX9_rings_71 : decode cX9_rings 71 = .ok (.iastore, 1) := by decide +kernel
theorem dX9_rings_72 : decode cX9_rings 72 = .ok (.iinc 2 1, 3) := by decide +kernel
theorem dX9_rings_75 : decode cX9_rings 75 = .ok (.goto (-67), 3) := by decide +kernel
theorem dX9_rings_78 : decode cX9_rings 78 = .ok (.return_, 1) := by decide +kernel
theorem dX9_fallOf_0 : decode cX9_fallOf 0 = .ok (.aload_n 0, 1) := by decide +kernel
theorem dX9_fallOf_1 : decode cX9_fallOf 1 = .ok (.getfield 70, 3) := by decide +kernel
theorem dX9_fallOf_4 : decode cX9_fallOf 4 = .ok (.iload_n 1, 1) := by decide +kernel
theorem dX9_fallOf_5 : decode cX9_fallOf 5 = .ok (.iaload, 1) := by decide +kernel
theorem dX9_fallOf_6 : decode cX9_fallOf 6 = .ok (.ifCond .ge 5, 3) := by decide +kernel
theorem dX9_fallOf_9 : decode cX9_fallOf 9 = .ok (.iconst 1, 1) := by decide +kernel
theorem dX9_fallOf_10 : decode cX9_fallOf 10 = .ok (.ireturn, 1) := by decide +kernel
theorem dX9_fallOf_11 : decode cX9_fallOf 11 = .ok (.aload_n 0, 1) := by decide +kernel
theorem dX9_fallOf_12 : decode cX9_fallOf 12 = .ok (.getfield 67, 3) := by decide +kernel
theorem dX9_fallOf_15 : decode cX9_fallOf 15 = .ok (.aload_n 0, 1) := by decide +kernel
theorem dX9_fallOf_16 : decode cX9_fallOf 16 = .ok (.getfield 70, 3) := by decide +kernel
theorem dX9_fallOf_19 : decode cX9_fallOf 19 = .ok (.iload_n 1, 1) := by decide +kernel
theorem dX9_fallOf_20 : decode cX9_fallOf 20 = .ok (.iaload, 1) := by decide +kernel
theorem dX9_fallOf_21 : decode cX9_fallOf 21 = .ok (.iaload, 1) := by decide +kernel
theorem dX9_fallOf_22 : decode cX9_fallOf 22 = .ok (.istore_n 2, 1) := by decide +kernel
theorem dX9_fallOf_23 : decode cX9_fallOf 23 = .ok (.iload_n 2, 1) := by decide +kernel
theorem dX9_fallOf_24 : decode cX9_fallOf 24 = .ok (.ifCond .lt 29, 3) := by decide +kernel
theorem dX9_fallOf_27 : decode cX9_fallOf 27 = .ok (.aload_n 0, 1) := by decide +kernel
theorem dX9_fallOf_28 : decode cX9_fallOf 28 = .ok (.getfield 79, 3) := by decide +kernel
theorem dX9_fallOf_31 : decode cX9_fallOf 31 = .ok (.iload_n 2, 1) := by decide +kernel
theorem dX9_fallOf_32 : decode cX9_fallOf 32 = .ok (.baload, 1) := by decide +kernel
theorem dX9_fallOf_33 : decode cX9_fallOf 33 = .ok (.ifCond .eq 18, 3) := by decide +kernel
theorem dX9_fallOf_36 : decode cX9_fallOf 36 = .ok (.aload_n 0, 1) := by decide +kernel
theorem dX9_fallOf_37 : decode cX9_fallOf 37 = .ok (.getfield 70, 3) := by decide +kernel
theorem dX9_fallOf_40 : decode cX9_fallOf 40 = .ok (.iload_n 2, 1) := by decide +kernel
theorem dX9_fallOf_41 : decode cX9_fallOf 41 = .ok (.iaload, 1) := by decide +kernel
theorem dX9_fallOf_42 : decode cX9_fallOf 42 = .ok (.aload_n 0, 1) := by decide +kernel
theorem dX9_fallOf_43 : decode cX9_fallOf 43 = .ok (.getfield 60, 3) := by decide +kernel
theorem dX9_fallOf_46 : decode cX9_fallOf 46 = .ok (.iload_n 1, 1) := by decide +kernel
theorem dX9_fallOf_47 : decode cX9_fallOf 47 = .ok (.iaload, 1) := by decide +kernel
theorem dX9_fallOf_48 : decode cX9_fallOf 48 = .ok (.if_icmp .ne 5, 3) := by decide +kernel
theorem dX9_fallOf_51 : decode cX9_fallOf 51 = .ok (.iconst 2, 1) := by decide +kernel
theorem dX9_fallOf_52 : decode cX9_fallOf 52 = .ok (.ireturn, 1) := by decide +kernel
theorem dX9_fallOf_53 : decode cX9_fallOf 53 = .ok (.iconst 0, 1) := by decide +kernel
theorem dX9_fallOf_54 : decode cX9_fallOf 54 = .ok (.istore_n 3, 1) := by decide +kernel
theorem dX9_fallOf_55 : decode cX9_fallOf 55 = .ok (.iload_n 3, 1) := by decide +kernel
theorem dX9_fallOf_56 : decode cX9_fallOf 56 = .ok (.bipush 8, 2) := by decide +kernel
theorem dX9_fallOf_58 : decode cX9_fallOf 58 = .ok (.if_icmp .ge 40, 3) := by decide +kernel
theorem dX9_fallOf_61 : decode cX9_fallOf 61 = .ok (.iload_n 3, 1) := by decide +kernel
theorem dX9_fallOf_62 : decode cX9_fallOf 62 = .ok (.iload_n 1, 1) := by decide +kernel
theorem dX9_fallOf_63 : decode cX9_fallOf 63 = .ok (.if_icmp .eq 29, 3) := by decide +kernel
theorem dX9_fallOf_66 : decode cX9_fallOf 66 = .ok (.aload_n 0, 1) := by decide +kernel
theorem dX9_fallOf_67 : decode cX9_fallOf 67 = .ok (.getfield 79, 3) := by decide +kernel
theorem dX9_fallOf_70 : decode cX9_fallOf 70 = .ok (.iload_n 3, 1) := by decide +kernel
theorem dX9_fallOf_71 : decode cX9_fallOf 71 = .ok (.baload, 1) := by decide +kernel
theorem dX9_fallOf_72 : decode cX9_fallOf 72 = .ok (.ifCond .eq 20, 3) := by decide +kernel
theorem dX9_fallOf_75 : decode cX9_fallOf 75 = .ok (.aload_n 0, 1) := by decide +kernel
theorem dX9_fallOf_76 : decode cX9_fallOf 76 = .ok (.getfield 70, 3) := by decide +kernel
theorem dX9_fallOf_79 : decode cX9_fallOf 79 = .ok (.iload_n 3, 1) := by decide +kernel
theorem dX9_fallOf_80 : decode cX9_fallOf 80 = .ok (.iaload, 1) := by decide +kernel
theorem dX9_fallOf_81 : decode cX9_fallOf 81 = .ok (.aload_n 0, 1) := by decide +kernel
theorem dX9_fallOf_82 : decode cX9_fallOf 82 = .ok (.getfield 70, 3) := by decide +kernel
theorem dX9_fallOf_85 : decode cX9_fallOf 85 = .ok (.iload_n 1, 1) := by decide +kernel
theorem dX9_fallOf_86 : decode cX9_fallOf 86 = .ok (.iaload, 1) := by decide +kernel
theorem dX9_fallOf_87 : decode cX9_fallOf 87 = .ok (.if_icmp .ne 5, 3) := by decide +kernel
theorem dX9_fallOf_90 : decode cX9_fallOf 90 = .ok (.iconst 3, 1) := by decide +kernel
theorem dX9_fallOf_91 : decode cX9_fallOf 91 = .ok (.ireturn, 1) := by decide +kernel
theorem dX9_fallOf_92 : decode cX9_fallOf 92 = .ok (.iinc 3 1, 3) := by decide +kernel
theorem dX9_fallOf_95 : decode cX9_fallOf 95 = .ok (.goto (-40), 3) := by decide +kernel
theorem dX9_fallOf_98 : decode cX9_fallOf 98 = .ok (.iconst 0, 1) := by decide +kernel
theorem dX9_fallOf_99 : decode cX9_fallOf 99 = .ok (.ireturn, 1) := by decide +kernel
theorem dX9_tries_0 : decode cX9_tries 0 = .ok (.aload_n 0, 1) := by decide +kernel
theorem dX9_tries_1 : decode cX9_tries 1 = .ok (.iload_n 1, 1) := by decide +kernel
theorem dX9_tries_2 : decode cX9_tries 2 = .ok (.invokevirtual 196, 3) := by decide +kernel
theorem dX9_tries_5 : decode cX9_tries 5 = .ok (.istore_n 3, 1) := by decide +kernel
theorem dX9_tries_6 : decode cX9_tries 6 = .ok (.aload_n 0, 1) := by decide +kernel
theorem dX9_tries_7 : decode cX9_tries 7 = .ok (.iconst 0, 1) := by decide +kernel
theorem dX9_tries_8 : decode cX9_tries 8 = .ok (.putfield 183, 3) := by decide +kernel
theorem dX9_tries_11 : decode cX9_tries 11 = .ok (.aload_n 0, 1) := by decide +kernel
theorem dX9_tries_12 : decode cX9_tries 12 = .ok (.iconst 0, 1) := by decide +kernel
theorem dX9_tries_13 : decode cX9_tries 13 = .ok (.putfield 193, 3) := by decide +kernel
theorem dX9_tries_16 : decode cX9_tries 16 = .ok (.iconst 0, 1) := by decide +kernel
theorem dX9_tries_17 : decode cX9_tries 17 = .ok (.istore 4, 2) := by decide +kernel
theorem dX9_tries_19 : decode cX9_tries 19 = .ok (.iload 4, 2) := by decide +kernel
theorem dX9_tries_21 : decode cX9_tries 21 = .ok (.bipush 8, 2) := by decide +kernel
theorem dX9_tries_23 : decode cX9_tries 23 = .ok (.if_icmp .ge 62, 3) := by decide +kernel
theorem dX9_tries_26 : decode cX9_tries 26 = .ok (.aload_n 0, 1) := by decide +kernel
theorem dX9_tries_27 : decode cX9_tries 27 = .ok (.getfield 70, 3) := by decide +kernel
theorem dX9_tries_30 : decode cX9_tries 30 = .ok (.iload 4, 2) := by decide +kernel
theorem dX9_tries_32 : decode cX9_tries 32 = .ok (.aload_n 0, 1) := by decide +kernel
theorem dX9_tries_33 : decode cX9_tries 33 = .ok (.getfield 60, 3) := by decide +kernel
theorem dX9_tries_36 : decode cX9_tries 36 = .ok (.iload 4, 2) := by decide +kernel
theorem dX9_tries_38 : decode cX9_tries 38 = .ok (.iaload, 1) := by decide +kernel
theorem dX9_tries_39 : decode cX9_tries 39 = .ok (.iastore, 1) := by decide +kernel
theorem dX9_tries_40 : decode cX9_tries 40 = .ok (.aload_n 0, 1) := by decide +kernel
theorem dX9_tries_41 : decode cX9_tries 41 = .ok (.getfield 73, 3) := by decide +kernel
theorem dX9_tries_44 : decode cX9_tries 44 = .ok (.iload 4, 2) := by decide +kernel
theorem dX9_tries_46 : decode cX9_tries 46 = .ok (.aload_n 0, 1) := by decide +kernel
theorem dX9_tries_47 : decode cX9_tries 47 = .ok (.getfield 64, 3) := by decide +kernel
theorem dX9_tries_50 : decode cX9_tries 50 = .ok (.iload 4, 2) := by decide +kernel
theorem dX9_tries_52 : decode cX9_tries 52 = .ok (.iaload, 1) := by decide +kernel
theorem dX9_tries_53 : decode cX9_tries 53 = .ok (.iastore, 1) := by decide +kernel
theorem dX9_tries_54 : decode cX9_tries 54 = .ok (.aload_n 0, 1) := by decide +kernel
theorem dX9_tries_55 : decode cX9_tries 55 = .ok (.getfield 79, 3) := by decide +kernel
theorem dX9_tries_58 : decode cX9_tries 58 = .ok (.iload 4, 2) := by decide +kernel
theorem dX9_tries_60 : decode cX9_tries 60 = .ok (.iconst 0, 1) := by decide +kernel
theorem dX9_tries_61 : decode cX9_tries 61 = .ok (.bastore, 1) := by decide +kernel
theorem dX9_tries_62 : decode cX9_tries 62 = .ok (.aload_n 0, 1) := by decide +kernel
theorem dX9_tries_63 : decode cX9_tries 63 = .ok (.getfield 76, 3) := by decide +kernel
theorem dX9_tries_66 : decode cX9_tries 66 = .ok (.iload 4, 2) := by decide +kernel
theorem dX9_tries_68 : decode cX9_tries 68 = .ok (.bipush (-2), 2) := by decide +kernel
theorem dX9_tries_70 : decode cX9_tries 70 = .ok (.iastore, 1) := by decide +kernel
theorem dX9_tries_71 : decode cX9_tries 71 = .ok (.aload_n 0, 1) := by decide +kernel
theorem dX9_tries_72 : decode cX9_tries 72 = .ok (.getfield 83, 3) := by decide +kernel
theorem dX9_tries_75 : decode cX9_tries 75 = .ok (.iload 4, 2) := by decide +kernel
theorem dX9_tries_77 : decode cX9_tries 77 = .ok (.iconst 0, 1) := by decide +kernel
theorem dX9_tries_78 : decode cX9_tries 78 = .ok (.iastore, 1) := by decide +kernel
theorem dX9_tries_79 : decode cX9_tries 79 = .ok (.iinc 4 1, 3) := by decide +kernel
theorem dX9_tries_82 : decode cX9_tries 82 = .ok (.goto (-63), 3) := by decide +kernel
theorem dX9_tries_85 : decode cX9_tries 85 = .ok (.iload_n 3, 1) := by decide +kernel
theorem dX9_tries_86 : decode cX9_tries 86 = .ok (.ifCond .ne 10, 3) := by decide +kernel
theorem dX9_tries_89 : decode cX9_tries 89 = .ok (.aload_n 0, 1) := by decide +kernel
theorem dX9_tries_90 : decode cX9_tries 90 = .ok (.iconst 4, 1) := by decide +kernel
theorem dX9_tries_91 : decode cX9_tries 91 = .ok (.putfield 193, 3) := by decide +kernel
theorem dX9_tries_94 : decode cX9_tries 94 = .ok (.iconst 0, 1) := by decide +kernel
theorem dX9_tries_95 : decode cX9_tries 95 = .ok (.ireturn, 1) := by decide +kernel
theorem dX9_tries_96 : decode cX9_tries 96 = .ok (.iload_n 2, 1) := by decide +kernel
theorem dX9_tries_97 : decode cX9_tries 97 = .ok (.bipush 11, 2) := by decide +kernel
theorem dX9_tries_99 : decode cX9_tries 99 = .ok (.if_icmp .ne 21, 3) := by decide +kernel
theorem dX9_tries_102 : decode cX9_tries 102 = .ok (.aload_n 0, 1) := by decide +kernel
theorem dX9_tries_103 : decode cX9_tries 103 = .ok (.iload_n 3, 1) := by decide +kernel
theorem dX9_tries_104 : decode cX9_tries 104 = .ok (.invokevirtual 199, 3) := by decide +kernel
theorem dX9_tries_107 : decode cX9_tries 107 = .ok (.aload_n 0, 1) := by decide +kernel
theorem dX9_tries_108 : decode cX9_tries 108 = .ok (.getfield 193, 3) := by decide +kernel
theorem dX9_tries_111 : decode cX9_tries 111 = .ok (.ifCond .ne 7, 3) := by decide +kernel
theorem dX9_tries_114 : decode cX9_tries 114 = .ok (.iconst 1, 1) := by decide +kernel
theorem dX9_tries_115 : decode cX9_tries 115 = .ok (.goto 4, 3) := by decide +kernel
theorem dX9_tries_118 : decode cX9_tries 118 = .ok (.iconst 0, 1) := by decide +kernel
theorem dX9_tries_119 : decode cX9_tries 119 = .ok (.ireturn, 1) := by decide +kernel
theorem dX9_tries_120 : decode cX9_tries 120 = .ok (.iload_n 2, 1) := by decide +kernel
theorem dX9_tries_121 : decode cX9_tries 121 = .ok (.iconst 5, 1) := by decide +kernel
theorem dX9_tries_122 : decode cX9_tries 122 = .ok (.if_icmp .lt 40, 3) := by decide +kernel
theorem dX9_tries_125 : decode cX9_tries 125 = .ok (.aload_n 0, 1) := by decide +kernel
theorem dX9_tries_126 : decode cX9_tries 126 = .ok (.iload_n 2, 1) := by decide +kernel
theorem dX9_tries_127 : decode cX9_tries 127 = .ok (.iload_n 3, 1) := by decide +kernel
theorem dX9_tries_128 : decode cX9_tries 128 = .ok (.invokevirtual 203, 3) := by decide +kernel
theorem dX9_tries_131 : decode cX9_tries 131 = .ok (.aload_n 0, 1) := by decide +kernel
theorem dX9_tries_132 : decode cX9_tries 132 = .ok (.getfield 183, 3) := by decide +kernel
theorem dX9_tries_135 : decode cX9_tries 135 = .ok (.ifCond .ne 8, 3) := by decide +kernel
theorem dX9_tries_138 : decode cX9_tries 138 = .ok (.aload_n 0, 1) := by decide +kernel
theorem dX9_tries_139 : decode cX9_tries 139 = .ok (.iconst 4, 1) := by decide +kernel
theorem dX9_tries_140 : decode cX9_tries 140 = .ok (.putfield 193, 3) := by decide +kernel
theorem dX9_tries_143 : decode cX9_tries 143 = .ok (.iload_n 2, 1) := by decide +kernel
theorem dX9_tries_144 : decode cX9_tries 144 = .ok (.bipush 10, 2) := by decide +kernel
theorem dX9_tries_146 : decode cX9_tries 146 = .ok (.if_icmp .eq 127, 3) := by decide +kernel
theorem dX9_tries_149 : decode cX9_tries 149 = .ok (.aload_n 0, 1) := by decide +kernel
theorem dX9_tries_150 : decode cX9_tries 150 = .ok (.getfield 193, 3) := by decide +kernel
theorem dX9_tries_153 : decode cX9_tries 153 = .ok (.ifCond .ne 7, 3) := by decide +kernel
theorem dX9_tries_156 : decode cX9_tries 156 = .ok (.iconst 1, 1) := by decide +kernel
theorem dX9_tries_157 : decode cX9_tries 157 = .ok (.goto 4, 3) := by decide +kernel
theorem dX9_tries_160 : decode cX9_tries 160 = .ok (.iconst 0, 1) := by decide +kernel
theorem dX9_tries_161 : decode cX9_tries 161 = .ok (.ireturn, 1) := by decide +kernel
theorem dX9_tries_162 : decode cX9_tries 162 = .ok (.iconst 0, 1) := by decide +kernel
theorem dX9_tries_163 : decode cX9_tries 163 = .ok (.istore 4, 2) := by decide +kernel
theorem dX9_tries_165 : decode cX9_tries 165 = .ok (.iload 4, 2) := by decide +kernel
theorem dX9_tries_167 : decode cX9_tries 167 = .ok (.bipush 8, 2) := by decide +kernel
theorem dX9_tries_169 : decode cX9_tries 169 = .ok (.if_icmp .ge 104, 3) := by decide +kernel
theorem dX9_tries_172 : decode cX9_tries 172 = .ok (.iload_n 3, 1) := by decide +kernel
theorem dX9_tries_173 : decode cX9_tries 173 = .ok (.iload 4, 2) := by decide +kernel
theorem dX9_tries_175 : decode cX9_tries 175 = .ok (.invokestatic 158, 3) := by decide +kernel
theorem dX9_tries_178 : decode cX9_tries 178 = .ok (.ifCond .ne 6, 3) := by decide +kernel
theorem dX9_tries_181 : decode cX9_tries 181 = .ok (.goto 86, 3) := by decide +kernel
theorem dX9_tries_184 : decode cX9_tries 184 = .ok (.aload_n 0, 1) := by decide +kernel
theorem dX9_tries_185 : decode cX9_tries 185 = .ok (.dup, 1) := by decide +kernel
theorem dX9_tries_186 : decode cX9_tries 186 = .ok (.getfield 183, 3) := by decide +kernel
theorem dX9_tries_189 : decode cX9_tries 189 = .ok (.iconst 1, 1) := by decide +kernel
theorem dX9_tries_190 : decode cX9_tries 190 = .ok (.iadd, 1) := by decide +kernel
theorem dX9_tries_191 : decode cX9_tries 191 = .ok (.putfield 183, 3) := by decide +kernel
theorem dX9_tries_194 : decode cX9_tries 194 = .ok (.iload_n 2, 1) := by decide +kernel
theorem dX9_tries_195 : decode cX9_tries 195 = .ok (.ifCond .eq 8, 3) := by decide +kernel
theorem dX9_tries_198 : decode cX9_tries 198 = .ok (.iload_n 2, 1) := by decide +kernel
theorem dX9_tries_199 : decode cX9_tries 199 = .ok (.iconst 1, 1) := by decide +kernel
theorem dX9_tries_200 : decode cX9_tries 200 = .ok (.if_icmp .ne 42, 3) := by decide +kernel
theorem dX9_tries_203 : decode cX9_tries 203 = .ok (.aload_n 0, 1) := by decide +kernel
theorem dX9_tries_204 : decode cX9_tries 204 = .ok (.iload 4, 2) := by decide +kernel
theorem dX9_tries_206 : decode cX9_tries 206 = .ok (.aload_n 0, 1) := by decide +kernel
theorem dX9_tries_207 : decode cX9_tries 207 = .ok (.getfield 60, 3) := by decide +kernel
theorem dX9_tries_210 : decode cX9_tries 210 = .ok (.iload 4, 2) := by decide +kernel
theorem dX9_tries_212 : decode cX9_tries 212 = .ok (.iaload, 1) := by decide +kernel
theorem dX9_tries_213 : decode cX9_tries 213 = .ok (.aload_n 0, 1) := by decide +kernel
theorem dX9_tries_214 : decode cX9_tries 214 = .ok (.getfield 64, 3) := by decide +kernel
theorem dX9_tries_217 : decode cX9_tries 217 = .ok (.iload 4, 2) := by decide +kernel
theorem dX9_tries_219 : decode cX9_tries 219 = .ok (.iaload, 1) := by decide +kernel
theorem dX9_tries_220 : decode cX9_tries 220 = .ok (.iload_n 2, 1) := by decide +kernel
theorem dX9_tries_221 : decode cX9_tries 221 = .ok (.iconst 1, 1) := by decide +kernel
theorem dX9_tries_222 : decode cX9_tries 222 = .ok (.if_icmp .ne 7, 3) := by decide +kernel
theorem dX9_tries_225 : decode cX9_tries 225 = .ok (.iconst 2, 1) := by decide +kernel
theorem dX9_tries_226 : decode cX9_tries 226 = .ok (.goto 4, 3) := by decide +kernel
theorem dX9_tries_229 : decode cX9_tries 229 = .ok (.iconst 0, 1) := by decide +kernel
theorem dX9_tries_230 : decode cX9_tries 230 = .ok (.iadd, 1) := by decide +kernel
theorem dX9_tries_231 : decode cX9_tries 231 = .ok (.iconst 4, 1) := by decide +kernel
theorem dX9_tries_232 : decode cX9_tries 232 = .ok (.irem, 1) := by decide +kernel
theorem dX9_tries_233 : decode cX9_tries 233 = .ok (.invokestatic 151, 3) := by decide +kernel
theorem dX9_tries_236 : decode cX9_tries 236 = .ok (.invokevirtual 172, 3) := by decide +kernel
theorem dX9_tries_239 : decode cX9_tries 239 = .ok (.goto 28, 3) := by decide +kernel
theorem dX9_tries_242 : decode cX9_tries 242 = .ok (.aload_n 0, 1) := by decide +kernel
theorem dX9_tries_243 : decode cX9_tries 243 = .ok (.iload 4, 2) := by decide +kernel
theorem dX9_tries_245 : decode cX9_tries 245 = .ok (.iload_n 2, 1) := by decide +kernel
theorem dX9_tries_246 : decode cX9_tries 246 = .ok (.iconst 2, 1) := by decide +kernel
theorem dX9_tries_247 : decode cX9_tries 247 = .ok (.if_icmp .ne 7, 3) := by decide +kernel
theorem dX9_tries_250 : decode cX9_tries 250 = .ok (.iconst 3, 1) := by decide +kernel
theorem dX9_tries_251 : decode cX9_tries 251 = .ok (.goto 13, 3) := by decide +kernel
theorem dX9_tries_254 : decode cX9_tries 254 = .ok (.iload_n 2, 1) := by decide +kernel
theorem dX9_tries_255 : decode cX9_tries 255 = .ok (.iconst 4, 1) := by decide +kernel
theorem dX9_tries_256 : decode cX9_tries 256 = .ok (.if_icmp .ne 7, 3) := by decide +kernel
theorem dX9_tries_259 : decode cX9_tries 259 = .ok (.iconst 2, 1) := by decide +kernel
theorem dX9_tries_260 : decode cX9_tries 260 = .ok (.goto 4, 3) := by decide +kernel
theorem dX9_tries_263 : decode cX9_tries 263 = .ok (.iconst 1, 1) := by decide +kernel
theorem dX9_tries_264 : decode cX9_tries 264 = .ok (.invokevirtual 176, 3) := by decide +kernel
theorem dX9_tries_267 : decode cX9_tries 267 = .ok (.iinc 4 1, 3) := by decide +kernel
theorem dX9_tries_270 : decode cX9_tries 270 = .ok (.goto (-105), 3) := by decide +kernel
theorem dX9_tries_273 : decode cX9_tries 273 = .ok (.aload_n 0, 1) := by decide +kernel
theorem dX9_tries_274 : decode cX9_tries 274 = .ok (.getfield 193, 3) := by decide +kernel
theorem dX9_tries_277 : decode cX9_tries 277 = .ok (.ifCond .ne 7, 3) := by decide +kernel
theorem dX9_tries_280 : decode cX9_tries 280 = .ok (.iconst 1, 1) := by decide +kernel
theorem dX9_tries_281 : decode cX9_tries 281 = .ok (.goto 4, 3) := by decide +kernel
theorem dX9_tries_284 : decode cX9_tries 284 = .ok (.iconst 0, 1) := by decide +kernel
theorem dX9_tries_285 : decode cX9_tries 285 = .ok (.istore 4, 2) := by decide +kernel
theorem dX9_tries_287 : decode cX9_tries 287 = .ok (.iconst 0, 1) := by decide +kernel
theorem dX9_tries_288 : decode cX9_tries 288 = .ok (.istore 5, 2) := by decide +kernel
theorem dX9_tries_290 : decode cX9_tries 290 = .ok (.iload 5, 2) := by decide +kernel
theorem dX9_tries_292 : decode cX9_tries 292 = .ok (.bipush 8, 2) := by decide +kernel
theorem dX9_tries_294 : decode cX9_tries 294 = .ok (.if_icmp .ge 56, 3) := by decide +kernel
theorem dX9_tries_297 : decode cX9_tries 297 = .ok (.aload_n 0, 1) := by decide +kernel
theorem dX9_tries_298 : decode cX9_tries 298 = .ok (.getfield 83, 3) := by decide +kernel
theorem dX9_tries_301 : decode cX9_tries 301 = .ok (.iload 5, 2) := by decide +kernel
theorem dX9_tries_303 : decode cX9_tries 303 = .ok (.aload_n 0, 1) := by decide +kernel
theorem dX9_tries_304 : decode cX9_tries 304 = .ok (.getfield 79, 3) := by decide +kernel
theorem dX9_tries_307 : decode cX9_tries 307 = .ok (.iload 5, 2) := by decide +kernel
theorem dX9_tries_309 : decode cX9_tries 309 = .ok (.baload, 1) := by decide +kernel
theorem dX9_tries_310 : decode cX9_tries 310 = .ok (.ifCond .eq 12, 3) := by decide +kernel
theorem dX9_tries_313 : decode cX9_tries 313 = .ok (.aload_n 0, 1) := by decide +kernel
theorem dX9_tries_314 : decode cX9_tries 314 = .ok (.iload 5, 2) := by decide +kernel
theorem dX9_tries_316 : decode cX9_tries 316 = .ok (.invokevirtual 205, 3) := by decide +kernel
theorem dX9_tries_319 : decode cX9_tries 319 = .ok (.goto 4, 3) := by decide +kernel
theorem dX9_tries_322 : decode cX9_tries 322 = .ok (.iconst 0, 1) := by decide +kernel
theorem dX9_tries_323 : decode cX9_tries 323 = .ok (.iastore, 1) := by decide +kernel
theorem dX9_tries_324 : decode cX9_tries 324 = .ok (.iload 4, 2) := by decide +kernel
theorem dX9_tries_326 : decode cX9_tries 326 = .ok (.aload_n 0, 1) := by decide +kernel
theorem dX9_tries_327 : decode cX9_tries 327 = .ok (.getfield 83, 3) := by decide +kernel
theorem dX9_tries_330 : decode cX9_tries 330 = .ok (.iload 5, 2) := by decide +kernel
theorem dX9_tries_332 : decode cX9_tries 332 = .ok (.iaload, 1) := by decide +kernel
theorem dX9_tries_333 : decode cX9_tries 333 = .ok (.ifCond .ne 7, 3) := by decide +kernel
theorem dX9_tries_336 : decode cX9_tries 336 = .ok (.iconst 1, 1) := by decide +kernel
theorem dX9_tries_337 : decode cX9_tries 337 = .ok (.goto 4, 3) := by decide +kernel
theorem dX9_tries_340 : decode cX9_tries 340 = .ok (.iconst 0, 1) := by decide +kernel
theorem dX9_tries_341 : decode cX9_tries 341 = .ok (.iand, 1) := by decide +kernel
theorem dX9_tries_342 : decode cX9_tries 342 = .ok (.istore 4, 2) := by decide +kernel
theorem dX9_tries_344 : decode cX9_tries 344 = .ok (.iinc 5 1, 3) := by decide +kernel
theorem dX9_tries_347 : decode cX9_tries 347 = .ok (.goto (-57), 3) := by decide +kernel
theorem dX9_tries_350 : decode cX9_tries 350 = .ok (.iload 4, 2) := by decide +kernel
theorem dX9_tries_352 : decode cX9_tries 352 = .ok (.ireturn, 1) := by decide +kernel
theorem dX9_made_0 : decode cX9_made 0 = .ok (.lconst 0, 1) := by decide +kernel
theorem dX9_made_1 : decode cX9_made 1 = .ok (.lstore_n 1, 1) := by decide +kernel
theorem dX9_made_2 : decode cX9_made 2 = .ok (.iconst 0, 1) := by decide +kernel
theorem dX9_made_3 : decode cX9_made 3 = .ok (.istore_n 3, 1) := by decide +kernel
theorem dX9_made_4 : decode cX9_made 4 = .ok (.iload_n 3, 1) := by decide +kernel
theorem dX9_made_5 : decode cX9_made 5 = .ok (.bipush 8, 2) := by decide +kernel
theorem dX9_made_7 : decode cX9_made 7 = .ok (.if_icmp .ge 33, 3) := by decide +kernel
theorem dX9_made_10 : decode cX9_made 10 = .ok (.lload_n 1, 1) := by decide +kernel
theorem dX9_made_11 : decode cX9_made 11 = .ok (.iconst 4, 1) := by decide +kernel
theorem dX9_made_12 : decode cX9_made 12 = .ok (.aload_n 0, 1) := by decide +kernel
theorem dX9_made_13 : decode cX9_made 13 = .ok (.getfield 70, 3) := by decide +kernel
theorem dX9_made_16 : decode cX9_made 16 = .ok (.iload_n 3, 1) := by decide +kernel
theorem dX9_made_17 : decode cX9_made 17 = .ok (.iaload, 1) := by decide +kernel
theorem dX9_made_18 : decode cX9_made 18 = .ok (.imul, 1) := by decide +kernel
theorem dX9_made_19 : decode cX9_made 19 = .ok (.aload_n 0, 1) := by decide +kernel
theorem dX9_made_20 : decode cX9_made 20 = .ok (.getfield 73, 3) := by decide +kernel
theorem dX9_made_23 : decode cX9_made 23 = .ok (.iload_n 3, 1) := by decide +kernel
theorem dX9_made_24 : decode cX9_made 24 = .ok (.iaload, 1) := by decide +kernel
theorem dX9_made_25 : decode cX9_made 25 = .ok (.iadd, 1) := by decide +kernel
theorem dX9_made_26 : decode cX9_made 26 = .ok (.i2l, 1) := by decide +kernel
theorem dX9_made_27 : decode cX9_made 27 = .ok (.bipush 6, 2) := by decide +kernel
theorem dX9_made_29 : decode cX9_made 29 = .ok (.iload_n 3, 1) := by decide +kernel
theorem dX9_made_30 : decode cX9_made 30 = .ok (.imul, 1) := by decide +kernel
theorem dX9_made_31 : decode cX9_made 31 = .ok (.lshl, 1) := by decide +kernel
theorem dX9_made_32 : decode cX9_made 32 = .ok (.lor, 1) := by decide +kernel
theorem dX9_made_33 : decode cX9_made 33 = .ok (.lstore_n 1, 1) := by decide +kernel
theorem dX9_made_34 : decode cX9_made 34 = .ok (.iinc 3 1, 3) := by decide +kernel
theorem dX9_made_37 : decode cX9_made 37 = .ok (.goto (-33), 3) := by decide +kernel
theorem dX9_made_40 : decode cX9_made 40 = .ok (.lload_n 1, 1) := by decide +kernel
theorem dX9_made_41 : decode cX9_made 41 = .ok (.lreturn, 1) := by decide +kernel
theorem dX9_feed_0 : decode cX9_feed 0 = .ok (.iload_n 1, 1) := by decide +kernel
theorem dX9_feed_1 : decode cX9_feed 1 = .ok (.bipush 32, 2) := by decide +kernel
theorem dX9_feed_3 : decode cX9_feed 3 = .ok (.bipush 126, 2) := by decide +kernel
theorem dX9_feed_5 : decode cX9_feed 5 = .ok (.invokestatic 147, 3) := by decide +kernel
theorem dX9_feed_8 : decode cX9_feed 8 = .ok (.ifCond .ne 5, 3) := by decide +kernel
theorem dX9_feed_11 : decode cX9_feed 11 = .ok (.iconst (-1), 1) := by decide +kernel
theorem dX9_feed_12 : decode cX9_feed 12 = .ok (.ireturn, 1) := by decide +kernel
theorem dX9_feed_13 : decode cX9_feed 13 = .ok (.aload_n 0, 1) := by decide +kernel
theorem dX9_feed_14 : decode cX9_feed 14 = .ok (.getfield 208, 3) := by decide +kernel
theorem dX9_feed_17 : decode cX9_feed 17 = .ok (.bipush 120, 2) := by decide +kernel
theorem dX9_feed_19 : decode cX9_feed 19 = .ok (.if_icmp .ne 6, 3) := by decide +kernel
theorem dX9_feed_22 : decode cX9_feed 22 = .ok (.bipush (-3), 2) := by decide +kernel
theorem dX9_feed_24 : decode cX9_feed 24 = .ok (.ireturn, 1) := by decide +kernel
theorem dX9_feed_25 : decode cX9_feed 25 = .ok (.aload_n 0, 1) := by decide +kernel
theorem dX9_feed_26 : decode cX9_feed 26 = .ok (.getfield 109, 3) := by decide +kernel
theorem dX9_feed_29 : decode cX9_feed 29 = .ok (.aload_n 0, 1) := by decide +kernel
theorem dX9_feed_30 : decode cX9_feed 30 = .ok (.getfield 208, 3) := by decide +kernel
theorem dX9_feed_33 : decode cX9_feed 33 = .ok (.iload_n 1, 1) := by decide +kernel
theorem dX9_feed_34 : decode cX9_feed 34 = .ok (.iastore, 1) := by decide +kernel
theorem dX9_feed_35 : decode cX9_feed 35 = .ok (.aload_n 0, 1) := by decide +kernel
theorem dX9_feed_36 : decode cX9_feed 36 = .ok (.dup, 1) := by decide +kernel
theorem dX9_feed_37 : decode cX9_feed 37 = .ok (.getfield 208, 3) := by decide +kernel
theorem dX9_feed_40 : decode cX9_feed 40 = .ok (.iconst 1, 1) := by decide +kernel
theorem dX9_feed_41 : decode cX9_feed 41 = .ok (.iadd, 1) := by decide +kernel
theorem dX9_feed_42 : decode cX9_feed 42 = .ok (.putfield 208, 3) := by decide +kernel
theorem dX9_feed_45 : decode cX9_feed 45 = .ok (.aload_n 0, 1) := by decide +kernel
theorem dX9_feed_46 : decode cX9_feed 46 = .ok (.getfield 208, 3) := by decide +kernel
theorem dX9_feed_49 : decode cX9_feed 49 = .ok (.ireturn, 1) := by decide +kernel
theorem dX9_wordFrom_0 : decode cX9_wordFrom 0 = .ok (.iconst 0, 1) := by decide +kernel
theorem dX9_wordFrom_1 : decode cX9_wordFrom 1 = .ok (.istore_n 2, 1) := by decide +kernel
theorem dX9_wordFrom_2 : decode cX9_wordFrom 2 = .ok (.iload_n 1, 1) := by decide +kernel
theorem dX9_wordFrom_3 : decode cX9_wordFrom 3 = .ok (.iload_n 2, 1) := by decide +kernel
theorem dX9_wordFrom_4 : decode cX9_wordFrom 4 = .ok (.iadd, 1) := by decide +kernel
theorem dX9_wordFrom_5 : decode cX9_wordFrom 5 = .ok (.aload_n 0, 1) := by decide +kernel
theorem dX9_wordFrom_6 : decode cX9_wordFrom 6 = .ok (.getfield 208, 3) := by decide +kernel
theorem dX9_wordFrom_9 : decode cX9_wordFrom 9 = .ok (.if_icmp .ge 27, 3) := by decide +kernel
theorem dX9_wordFrom_12 : decode cX9_wordFrom 12 = .ok (.aload_n 0, 1) := by decide +kernel
theorem dX9_wordFrom_13 : decode cX9_wordFrom 13 = .ok (.getfield 109, 3) := by decide +kernel
theorem dX9_wordFrom_16 : decode cX9_wordFrom 16 = .ok (.iload_n 1, 1) := by decide +kernel
theorem dX9_wordFrom_17 : decode cX9_wordFrom 17 = .ok (.iload_n 2, 1) := by decide +kernel
theorem dX9_wordFrom_18 : decode cX9_wordFrom 18 = .ok (.iadd, 1) := by decide +kernel
theorem dX9_wordFrom_19 : decode cX9_wordFrom 19 = .ok (.iaload, 1) := by decide +kernel
theorem dX9_wordFrom_20 : decode cX9_wordFrom 20 = .ok (.bipush 97, 2) := by decide +kernel
theorem dX9_wordFrom_22 : decode cX9_wordFrom 22 = .ok (.bipush 122, 2) := by decide +kernel
theorem dX9_wordFrom_24 : decode cX9_wordFrom 24 = .ok (.invokestatic 147, 3) := by decide +kernel
theorem dX9_wordFrom_27 : decode cX9_wordFrom 27 = .ok (.ifCond .eq 9, 3) := by decide +kernel
theorem dX9_wordFrom_30 : decode cX9_wordFrom 30 = .ok (.iinc 2 1, 3) := by decide +kernel
theorem dX9_wordFrom_33 : decode cX9_wordFrom 33 = .ok (.goto (-31), 3) := by decide +kernel
theorem dX9_wordFrom_36 : decode cX9_wordFrom 36 = .ok (.iload_n 2, 1) := by decide +kernel
theorem dX9_wordFrom_37 : decode cX9_wordFrom 37 = .ok (.ireturn, 1) := by decide +kernel
theorem dX9_find_0 : decode cX9_find 0 = .ok (.iconst 0, 1) := by decide +kernel
theorem dX9_find_1 : decode cX9_find 1 = .ok (.istore_n 3, 1) := by decide +kernel
theorem dX9_find_2 : decode cX9_find 2 = .ok (.iload_n 3, 1) := by decide +kernel
theorem dX9_find_3 : decode cX9_find 3 = .ok (.aload_n 1, 1) := by decide +kernel
theorem dX9_find_4 : decode cX9_find 4 = .ok (.arraylength, 1) := by decide +kernel
theorem dX9_find_5 : decode cX9_find 5 = .ok (.if_icmp .ge 83, 3) := by decide +kernel
theorem dX9_find_8 : decode cX9_find 8 = .ok (.aload_n 1, 1) := by decide +kernel
theorem dX9_find_9 : decode cX9_find 9 = .ok (.iload_n 3, 1) := by decide +kernel
theorem dX9_find_10 : decode cX9_find 10 = .ok (.aaload, 1) := by decide +kernel
theorem dX9_find_11 : decode cX9_find 11 = .ok (.invokevirtual 211, 3) := by decide +kernel
theorem dX9_find_14 : decode cX9_find 14 = .ok (.iload_n 2, 1) := by decide +kernel
theorem dX9_find_15 : decode cX9_find 15 = .ok (.if_icmp .ne 7, 3) := by decide +kernel
theorem dX9_find_18 : decode cX9_find 18 = .ok (.iconst 1, 1) := by decide +kernel
theorem dX9_find_19 : decode cX9_find 19 = .ok (.goto 4, 3) := by decide +kernel
theorem dX9_find_22 : decode cX9_find 22 = .ok (.iconst 0, 1) := by decide +kernel
theorem dX9_find_23 : decode cX9_find 23 = .ok (.istore 4, 2) := by decide +kernel
theorem dX9_find_25 : decode cX9_find 25 = .ok (.iconst 0, 1) := by decide +kernel
theorem dX9_find_26 : decode cX9_find 26 = .ok (.istore 5, 2) := by decide +kernel
theorem dX9_find_28 : decode cX9_find 28 = .ok (.iload 5, 2) := by decide +kernel
theorem dX9_find_30 : decode cX9_find 30 = .ok (.iload_n 2, 1) := by decide +kernel
theorem dX9_find_31 : decode cX9_find 31 = .ok (.if_icmp .ge 44, 3) := by decide +kernel
theorem dX9_find_34 : decode cX9_find 34 = .ok (.iload 4, 2) := by decide +kernel
theorem dX9_find_36 : decode cX9_find 36 = .ok (.ifCond .eq 39, 3) := by decide +kernel
theorem dX9_find_39 : decode cX9_find 39 = .ok (.aload_n 1, 1) := by decide +kernel
theorem dX9_find_40 : decode cX9_find 40 = .ok (.iload_n 3, 1) := by decide +kernel
theorem dX9_find_41 : decode cX9_find 41 = .ok (.aaload, 1) := by decide +kernel
theorem dX9_find_42 : decode cX9_find 42 = .ok (.iload 5, 2) := by decide +kernel
theorem dX9_find_44 : decode cX9_find 44 = .ok (.invokevirtual 215, 3) := by decide +kernel
theorem dX9_find_47 : decode cX9_find 47 = .ok (.aload_n 0, 1) := by decide +kernel
theorem dX9_find_48 : decode cX9_find 48 = .ok (.getfield 109, 3) := by decide +kernel
theorem dX9_find_51 : decode cX9_find 51 = .ok (.aload_n 0, 1) := by decide +kernel
theorem dX9_find_52 : decode cX9_find 52 = .ok (.getfield 219, 3) := by decide +kernel
theorem dX9_find_55 : decode cX9_find 55 = .ok (.iload 5, 2) := by decide +kernel
theorem dX9_find_57 : decode cX9_find 57 = .ok (.iadd, 1) := by decide +kernel
theorem dX9_find_58 : decode cX9_find 58 = .ok (.iaload, 1) := by decide +kernel
theorem dX9_find_59 : decode cX9_find 59 = .ok (.if_icmp .ne 7, 3) := by decide +kernel
theorem dX9_find_62 : decode cX9_find 62 = .ok (.iconst 1, 1) := by decide +kernel
theorem dX9_find_63 : decode cX9_find 63 = .ok (.goto 4, 3) := by decide +kernel
theorem dX9_find_66 : decode cX9_find 66 = .ok (.iconst 0, 1) := by decide +kernel
theorem dX9_find_67 : decode cX9_find 67 = .ok (.istore 4, 2) := by decide +kernel
theorem dX9_find_69 : decode cX9_find 69 = .ok (.iinc 5 1, 3) := by decide +kernel
theorem dX9_find_72 : decode cX9_find 72 = .ok (.goto (-44), 3) := by decide +kernel
theorem dX9_find_75 : decode cX9_find 75 = .ok (.iload 4, 2) := by decide +kernel
theorem dX9_find_77 : decode cX9_find 77 = .ok (.ifCond .eq 5, 3) := by decide +kernel
theorem dX9_find_80 : decode cX9_find 80 = .ok (.iload_n 3, 1) := by decide +kernel
theorem dX9_find_81 : decode cX9_find 81 = .ok (.ireturn, 1) := by decide +kernel
theorem dX9_find_82 : decode cX9_find 82 = .ok (.iinc 3 1, 3) := by decide +kernel
theorem dX9_find_85 : decode cX9_find 85 = .ok (.goto (-83), 3) := by decide +kernel
theorem dX9_find_88 : decode cX9_find 88 = .ok (.bipush (-2), 2) := by decide +kernel
theorem dX9_find_90 : decode cX9_find 90 = .ok (.ireturn, 1) := by decide +kernel
theorem dX9_fails_0 : decode cX9_fails 0 = .ok (.aload_n 0, 1) := by decide +kernel
theorem dX9_fails_1 : decode cX9_fails 1 = .ok (.getfield 222, 3) := by decide +kernel
theorem dX9_fails_4 : decode cX9_fails 4 = .ok (.ifCond .ge 8, 3) := by decide +kernel
theorem dX9_fails_7 : decode cX9_fails 7 = .ok (.aload_n 0, 1) := by decide +kernel
theorem dX9_fails_8 : decode cX9_fails 8 = .ok (.iload_n 1, 1) := by decide +kernel
theorem dX9_fails_9 : decode cX9_fails 9 = .ok (.putfield 222, 3) := by decide +kernel
theorem dX9_fails_12 : decode cX9_fails 12 = .ok (.return_, 1) := by decide +kernel
theorem dX9_sees_0 : decode cX9_sees 0 = .ok (.aload_n 0, 1) := by decide +kernel
theorem dX9_sees_1 : decode cX9_sees 1 = .ok (.getfield 222, 3) := by decide +kernel
theorem dX9_sees_4 : decode cX9_sees 4 = .ok (.ifCond .ge 31, 3) := by decide +kernel
theorem dX9_sees_7 : decode cX9_sees 7 = .ok (.aload_n 0, 1) := by decide +kernel
theorem dX9_sees_8 : decode cX9_sees 8 = .ok (.getfield 219, 3) := by decide +kernel
theorem dX9_sees_11 : decode cX9_sees 11 = .ok (.aload_n 0, 1) := by decide +kernel
theorem dX9_sees_12 : decode cX9_sees 12 = .ok (.getfield 208, 3) := by decide +kernel
theorem dX9_sees_15 : decode cX9_sees 15 = .ok (.if_icmp .ge 20, 3) := by decide +kernel
theorem dX9_sees_18 : decode cX9_sees 18 = .ok (.aload_n 0, 1) := by decide +kernel
theorem dX9_sees_19 : decode cX9_sees 19 = .ok (.getfield 109, 3) := by decide +kernel
theorem dX9_sees_22 : decode cX9_sees 22 = .ok (.aload_n 0, 1) := by decide +kernel
theorem dX9_sees_23 : decode cX9_sees 23 = .ok (.getfield 219, 3) := by decide +kernel
theorem dX9_sees_26 : decode cX9_sees 26 = .ok (.iaload, 1) := by decide +kernel
theorem dX9_sees_27 : decode cX9_sees 27 = .ok (.iload_n 1, 1) := by decide +kernel
theorem dX9_sees_28 : decode cX9_sees 28 = .ok (.if_icmp .ne 7, 3) := by decide +kernel
theorem dX9_sees_31 : decode cX9_sees 31 = .ok (.iconst 1, 1) := by decide +kernel
theorem dX9_sees_32 : decode cX9_sees 32 = .ok (.goto 4, 3) := by decide +kernel
theorem dX9_sees_35 : decode cX9_sees 35 = .ok (.iconst 0, 1) := by decide +kernel
theorem dX9_sees_36 : decode cX9_sees 36 = .ok (.ireturn, 1) := by decide +kernel
theorem dX9_reads_0 : decode cX9_reads 0 = .ok (.aload_n 0, 1) := by decide +kernel
theorem dX9_reads_1 : decode cX9_reads 1 = .ok (.aload_n 0, 1) := by decide +kernel
theorem dX9_reads_2 : decode cX9_reads 2 = .ok (.getfield 219, 3) := by decide +kernel
theorem dX9_reads_5 : decode cX9_reads 5 = .ok (.invokevirtual 225, 3) := by decide +kernel
theorem dX9_reads_8 : decode cX9_reads 8 = .ok (.istore_n 1, 1) := by decide +kernel
theorem dX9_reads_9 : decode cX9_reads 9 = .ok (.aload_n 0, 1) := by decide +kernel
theorem dX9_reads_10 : decode cX9_reads 10 = .ok (.aload_n 0, 1) := by decide +kernel
theorem dX9_reads_11 : decode cX9_reads 11 = .ok (.getfield 27, 3) := by decide +kernel
theorem dX9_reads_14 : decode cX9_reads 14 = .ok (.iload_n 1, 1) := by decide +kernel
theorem dX9_reads_15 : decode cX9_reads 15 = .ok (.invokevirtual 228, 3) := by decide +kernel
theorem dX9_reads_18 : decode cX9_reads 18 = .ok (.istore_n 2, 1) := by decide +kernel
theorem dX9_reads_19 : decode cX9_reads 19 = .ok (.iload_n 2, 1) := by decide +kernel
theorem dX9_reads_20 : decode cX9_reads 20 = .ok (.ifCond .lt 50, 3) := by decide +kernel
theorem dX9_reads_23 : decode cX9_reads 23 = .ok (.aload_n 0, 1) := by decide +kernel
theorem dX9_reads_24 : decode cX9_reads 24 = .ok (.dup, 1) := by decide +kernel
theorem dX9_reads_25 : decode cX9_reads 25 = .ok (.getfield 219, 3) := by decide +kernel
theorem dX9_reads_28 : decode cX9_reads 28 = .ok (.iload_n 1, 1) := by decide +kernel
theorem dX9_reads_29 : decode cX9_reads 29 = .ok (.iadd, 1) := by decide +kernel
theorem dX9_reads_30 : decode cX9_reads 30 = .ok (.putfield 219, 3) := by decide +kernel
theorem dX9_reads_33 : decode cX9_reads 33 = .ok (.aload_n 0, 1) := by decide +kernel
theorem dX9_reads_34 : decode cX9_reads 34 = .ok (.bipush 32, 2) := by decide +kernel
theorem dX9_reads_36 : decode cX9_reads 36 = .ok (.invokevirtual 232, 3) := by decide +kernel
theorem dX9_reads_39 : decode cX9_reads 39 = .ok (.ifCond .ne 12, 3) := by decide +kernel
theorem dX9_reads_42 : decode cX9_reads 42 = .ok (.aload_n 0, 1) := by decide +kernel
theorem dX9_reads_43 : decode cX9_reads 43 = .ok (.aload_n 0, 1) := by decide +kernel
theorem dX9_reads_44 : decode cX9_reads 44 = .ok (.getfield 219, 3) := by decide +kernel
theorem dX9_reads_47 : decode cX9_reads 47 = .ok (.invokevirtual 236, 3) := by decide +kernel
theorem dX9_reads_50 : decode cX9_reads 50 = .ok (.return_, 1) := by decide +kernel
theorem dX9_reads_51 : decode cX9_reads 51 = .ok (.aload_n 0, 1) := by decide +kernel
theorem dX9_reads_52 : decode cX9_reads 52 = .ok (.dup, 1) := by decide +kernel
theorem dX9_reads_53 : decode cX9_reads 53 = .ok (.getfield 219, 3) := by decide +kernel
theorem dX9_reads_56 : decode cX9_reads 56 = .ok (.iconst 1, 1) := by decide +kernel
theorem dX9_reads_57 : decode cX9_reads 57 = .ok (.iadd, 1) := by decide +kernel
theorem dX9_reads_58 : decode cX9_reads 58 = .ok (.putfield 219, 3) := by decide +kernel
theorem dX9_reads_61 : decode cX9_reads 61 = .ok (.aload_n 0, 1) := by decide +kernel
theorem dX9_reads_62 : decode cX9_reads 62 = .ok (.aload_n 0, 1) := by decide +kernel
theorem dX9_reads_63 : decode cX9_reads 63 = .ok (.getfield 219, 3) := by decide +kernel
theorem dX9_reads_66 : decode cX9_reads 66 = .ok (.invokevirtual 225, 3) := by decide +kernel
theorem dX9_reads_69 : decode cX9_reads 69 = .ok (.istore_n 1, 1) := by decide +kernel
theorem dX9_reads_70 : decode cX9_reads 70 = .ok (.aload_n 0, 1) := by decide +kernel
theorem dX9_reads_71 : decode cX9_reads 71 = .ok (.aload_n 0, 1) := by decide +kernel
theorem dX9_reads_72 : decode cX9_reads 72 = .ok (.getfield 57, 3) := by decide +kernel
theorem dX9_reads_75 : decode cX9_reads 75 = .ok (.iload_n 1, 1) := by decide +kernel
theorem dX9_reads_76 : decode cX9_reads 76 = .ok (.invokevirtual 228, 3) := by decide +kernel
theorem dX9_reads_79 : decode cX9_reads 79 = .ok (.istore_n 3, 1) := by decide +kernel
theorem dX9_reads_80 : decode cX9_reads 80 = .ok (.iload_n 3, 1) := by decide +kernel
theorem dX9_reads_81 : decode cX9_reads 81 = .ok (.ifCond .ge 12, 3) := by decide +kernel
theorem dX9_reads_84 : decode cX9_reads 84 = .ok (.aload_n 0, 1) := by decide +kernel
theorem dX9_reads_85 : decode cX9_reads 85 = .ok (.aload_n 0, 1) := by decide +kernel
theorem dX9_reads_86 : decode cX9_reads 86 = .ok (.getfield 219, 3) := by decide +kernel
theorem dX9_reads_89 : decode cX9_reads 89 = .ok (.invokevirtual 236, 3) := by decide +kernel
theorem dX9_reads_92 : decode cX9_reads 92 = .ok (.return_, 1) := by decide +kernel
theorem dX9_reads_93 : decode cX9_reads 93 = .ok (.aload_n 0, 1) := by decide +kernel
theorem dX9_reads_94 : decode cX9_reads 94 = .ok (.dup, 1) := by decide +kernel
theorem dX9_reads_95 : decode cX9_reads 95 = .ok (.getfield 219, 3) := by decide +kernel
theorem dX9_reads_98 : decode cX9_reads 98 = .ok (.iload_n 1, 1) := by decide +kernel
theorem dX9_reads_99 : decode cX9_reads 99 = .ok (.iadd, 1) := by decide +kernel
theorem dX9_reads_100 : decode cX9_reads 100 = .ok (.putfield 219, 3) := by decide +kernel
theorem dX9_reads_103 : decode cX9_reads 103 = .ok (.iconst 1, 1) := by decide +kernel
theorem dX9_reads_104 : decode cX9_reads 104 = .ok (.istore 4, 2) := by decide +kernel
theorem dX9_reads_106 : decode cX9_reads 106 = .ok (.aload_n 0, 1) := by decide +kernel
theorem dX9_reads_107 : decode cX9_reads 107 = .ok (.bipush 32, 2) := by decide +kernel
theorem dX9_reads_109 : decode cX9_reads 109 = .ok (.invokevirtual 232, 3) := by decide +kernel
theorem dX9_reads_112 : decode cX9_reads 112 = .ok (.ifCond .eq 76, 3) := by decide +kernel
theorem dX9_reads_115 : decode cX9_reads 115 = .ok (.aload_n 0, 1) := by decide +kernel
theorem dX9_reads_116 : decode cX9_reads 116 = .ok (.dup, 1) := by decide +kernel
theorem dX9_reads_117 : decode cX9_reads 117 = .ok (.getfield 219, 3) := by decide +kernel
theorem dX9_reads_120 : decode cX9_reads 120 = .ok (.iconst 1, 1) := by decide +kernel
theorem dX9_reads_121 : decode cX9_reads 121 = .ok (.iadd, 1) := by decide +kernel
theorem dX9_reads_122 : decode cX9_reads 122 = .ok (.putfield 219, 3) := by decide +kernel
theorem dX9_reads_125 : decode cX9_reads 125 = .ok (.aload_n 0, 1) := by decide +kernel
theorem dX9_reads_126 : decode cX9_reads 126 = .ok (.getfield 219, 3) := by decide +kernel
theorem dX9_reads_129 : decode cX9_reads 129 = .ok (.aload_n 0, 1) := by decide +kernel
theorem dX9_reads_130 : decode cX9_reads 130 = .ok (.getfield 208, 3) := by decide +kernel
theorem dX9_reads_133 : decode cX9_reads 133 = .ok (.if_icmp .ge 22, 3) := by decide +kernel
theorem dX9_reads_136 : decode cX9_reads 136 = .ok (.aload_n 0, 1) := by decide +kernel
theorem dX9_reads_137 : decode cX9_reads 137 = .ok (.getfield 109, 3) := by decide +kernel
theorem dX9_reads_140 : decode cX9_reads 140 = .ok (.aload_n 0, 1) := by decide +kernel
theorem dX9_reads_141 : decode cX9_reads 141 = .ok (.getfield 219, 3) := by decide +kernel
theorem dX9_reads_144 : decode cX9_reads 144 = .ok (.iaload, 1) := by decide +kernel
theorem dX9_reads_145 : decode cX9_reads 145 = .ok (.bipush 50, 2) := by decide +kernel
theorem dX9_reads_147 : decode cX9_reads 147 = .ok (.bipush 52, 2) := by decide +kernel
theorem dX9_reads_149 : decode cX9_reads 149 = .ok (.invokestatic 147, 3) := by decide +kernel
theorem dX9_reads_152 : decode cX9_reads 152 = .ok (.ifCond .ne 12, 3) := by decide +kernel
theorem dX9_reads_155 : decode cX9_reads 155 = .ok (.aload_n 0, 1) := by decide +kernel
theorem dX9_reads_156 : decode cX9_reads 156 = .ok (.aload_n 0, 1) := by decide +kernel
theorem dX9_reads_157 : decode cX9_reads 157 = .ok (.getfield 219, 3) := by decide +kernel
theorem dX9_reads_160 : decode cX9_reads 160 = .ok (.invokevirtual 236, 3) := by decide +kernel
theorem dX9_reads_163 : decode cX9_reads 163 = .ok (.return_, 1) := by decide +kernel
theorem dX9_reads_164 : decode cX9_reads 164 = .ok (.aload_n 0, 1) := by decide +kernel
theorem dX9_reads_165 : decode cX9_reads 165 = .ok (.getfield 109, 3) := by decide +kernel
theorem dX9_reads_168 : decode cX9_reads 168 = .ok (.aload_n 0, 1) := by decide +kernel
theorem dX9_reads_169 : decode cX9_reads 169 = .ok (.getfield 219, 3) := by decide +kernel
theorem dX9_reads_172 : decode cX9_reads 172 = .ok (.iaload, 1) := by decide +kernel
theorem dX9_reads_173 : decode cX9_reads 173 = .ok (.bipush 48, 2) := by decide +kernel
theorem dX9_reads_175 : decode cX9_reads 175 = .ok (.isub, 1) := by decide +kernel
theorem dX9_reads_176 : decode cX9_reads 176 = .ok (.istore 4, 2) := by decide +kernel
theorem dX9_reads_178 : decode cX9_reads 178 = .ok (.aload_n 0, 1) := by decide +kernel
theorem dX9_reads_179 : decode cX9_reads 179 = .ok (.dup, 1) := by decide +kernel
theorem dX9_reads_180 : decode cX9_reads 180 = .ok (.getfield 219, 3) := by decide +kernel
theorem dX9_reads_183 : decode cX9_reads 183 = .ok (.iconst 1, 1) := by decide +kernel
theorem dX9_reads_184 : decode cX9_reads 184 = .ok (.iadd, 1) := by decide +kernel
theorem dX9_reads_185 : decode cX9_reads 185 = .ok (.putfield 219, 3) := by decide +kernel
theorem dX9_reads_188 : decode cX9_reads 188 = .ok (.iconst 0, 1) := by decide +kernel
theorem dX9_reads_189 : decode cX9_reads 189 = .ok (.istore 5, 2) := by decide +kernel
theorem dX9_reads_191 : decode cX9_reads 191 = .ok (.iload 5, 2) := by decide +kernel
theorem dX9_reads_193 : decode cX9_reads 193 = .ok (.iload 4, 2) := by decide +kernel
theorem dX9_reads_195 : decode cX9_reads 195 = .ok (.if_icmp .ge 38, 3) := by decide +kernel
theorem dX9_reads_198 : decode cX9_reads 198 = .ok (.aload_n 0, 1) := by decide +kernel
theorem dX9_reads_199 : decode cX9_reads 199 = .ok (.getfield 112, 3) := by decide +kernel
theorem dX9_reads_202 : decode cX9_reads 202 = .ok (.aload_n 0, 1) := by decide +kernel
theorem dX9_reads_203 : decode cX9_reads 203 = .ok (.getfield 239, 3) := by decide +kernel
theorem dX9_reads_206 : decode cX9_reads 206 = .ok (.bipush 100, 2) := by decide +kernel
theorem dX9_reads_208 : decode cX9_reads 208 = .ok (.iconst 0, 1) := by decide +kernel
theorem dX9_reads_209 : decode cX9_reads 209 = .ok (.iload_n 2, 1) := by decide +kernel
theorem dX9_reads_210 : decode cX9_reads 210 = .ok (.invokestatic 242, 3) := by decide +kernel
theorem dX9_reads_213 : decode cX9_reads 213 = .ok (.imul, 1) := by decide +kernel
theorem dX9_reads_214 : decode cX9_reads 214 = .ok (.iload_n 3, 1) := by decide +kernel
theorem dX9_reads_215 : decode cX9_reads 215 = .ok (.iadd, 1) := by decide +kernel
theorem dX9_reads_216 : decode cX9_reads 216 = .ok (.iastore, 1) := by decide +kernel
theorem dX9_reads_217 : decode cX9_reads 217 = .ok (.aload_n 0, 1) := by decide +kernel
theorem dX9_reads_218 : decode cX9_reads 218 = .ok (.dup, 1) := by decide +kernel
theorem dX9_reads_219 : decode cX9_reads 219 = .ok (.getfield 239, 3) := by decide +kernel
theorem dX9_reads_222 : decode cX9_reads 222 = .ok (.iconst 1, 1) := by decide +kernel
theorem dX9_reads_223 : decode cX9_reads 223 = .ok (.iadd, 1) := by decide +kernel
theorem dX9_reads_224 : decode cX9_reads 224 = .ok (.putfield 239, 3) := by decide +kernel
theorem dX9_reads_227 : decode cX9_reads 227 = .ok (.iinc 5 1, 3) := by decide +kernel
theorem dX9_reads_230 : decode cX9_reads 230 = .ok (.goto (-39), 3) := by decide +kernel
theorem dX9_reads_233 : decode cX9_reads 233 = .ok (.return_, 1) := by decide +kernel
theorem dX9_isText_0 : decode cX9_isText 0 = .ok (.aload_n 0, 1) := by decide +kernel
theorem dX9_isText_1 : decode cX9_isText 1 = .ok (.iconst 0, 1) := by decide +kernel
theorem dX9_isText_2 : decode cX9_isText 2 = .ok (.putfield 219, 3) := by decide +kernel
theorem dX9_isText_5 : decode cX9_isText 5 = .ok (.aload_n 0, 1) := by decide +kernel
theorem dX9_isText_6 : decode cX9_isText 6 = .ok (.iconst (-1), 1) := by decide +kernel
theorem dX9_isText_7 : decode cX9_isText 7 = .ok (.putfield 222, 3) := by decide +kernel
theorem dX9_isText_10 : decode cX9_isText 10 = .ok (.aload_n 0, 1) := by decide +kernel
theorem dX9_isText_11 : decode cX9_isText 11 = .ok (.iconst 0, 1) := by decide +kernel
theorem dX9_isText_12 : decode cX9_isText 12 = .ok (.putfield 239, 3) := by decide +kernel
theorem dX9_isText_15 : decode cX9_isText 15 = .ok (.aload_n 0, 1) := by decide +kernel
theorem dX9_isText_16 : decode cX9_isText 16 = .ok (.invokevirtual 247, 3) := by decide +kernel
theorem dX9_isText_19 : decode cX9_isText 19 = .ok (.aload_n 0, 1) := by decide +kernel
theorem dX9_isText_20 : decode cX9_isText 20 = .ok (.bipush 44, 2) := by decide +kernel
theorem dX9_isText_22 : decode cX9_isText 22 = .ok (.invokevirtual 232, 3) := by decide +kernel
theorem dX9_isText_25 : decode cX9_isText 25 = .ok (.ifCond .eq 20, 3) := by decide +kernel
theorem dX9_isText_28 : decode cX9_isText 28 = .ok (.aload_n 0, 1) := by decide +kernel
theorem dX9_isText_29 : decode cX9_isText 29 = .ok (.dup, 1) := by decide +kernel
theorem dX9_isText_30 : decode cX9_isText 30 = .ok (.getfield 219, 3) := by decide +kernel
theorem dX9_isText_33 : decode cX9_isText 33 = .ok (.iconst 1, 1) := by decide +kernel
theorem dX9_isText_34 : decode cX9_isText 34 = .ok (.iadd, 1) := by decide +kernel
theorem dX9_isText_35 : decode cX9_isText 35 = .ok (.putfield 219, 3) := by decide +kernel
theorem dX9_isText_38 : decode cX9_isText 38 = .ok (.aload_n 0, 1) := by decide +kernel
theorem dX9_isText_39 : decode cX9_isText 39 = .ok (.invokevirtual 247, 3) := by decide +kernel
theorem dX9_isText_42 : decode cX9_isText 42 = .ok (.goto (-23), 3) := by decide +kernel
theorem dX9_isText_45 : decode cX9_isText 45 = .ok (.aload_n 0, 1) := by decide +kernel
theorem dX9_isText_46 : decode cX9_isText 46 = .ok (.getfield 219, 3) := by decide +kernel
theorem dX9_isText_49 : decode cX9_isText 49 = .ok (.aload_n 0, 1) := by decide +kernel
theorem dX9_isText_50 : decode cX9_isText 50 = .ok (.getfield 208, 3) := by decide +kernel
theorem dX9_isText_53 : decode cX9_isText 53 = .ok (.if_icmp .ge 11, 3) := by decide +kernel
theorem dX9_isText_56 : decode cX9_isText 56 = .ok (.aload_n 0, 1) := by decide +kernel
theorem dX9_isText_57 : decode cX9_isText 57 = .ok (.aload_n 0, 1) := by decide +kernel
theorem dX9_isText_58 : decode cX9_isText 58 = .ok (.getfield 219, 3) := by decide +kernel
theorem dX9_isText_61 : decode cX9_isText 61 = .ok (.invokevirtual 236, 3) := by decide +kernel
theorem dX9_isText_64 : decode cX9_isText 64 = .ok (.aload_n 0, 1) := by decide +kernel
theorem dX9_isText_65 : decode cX9_isText 65 = .ok (.iconst 0, 1) := by decide +kernel
theorem dX9_isText_66 : decode cX9_isText 66 = .ok (.putfield 208, 3) := by decide +kernel
theorem dX9_isText_69 : decode cX9_isText 69 = .ok (.aload_n 0, 1) := by decide +kernel
theorem dX9_isText_70 : decode cX9_isText 70 = .ok (.getfield 222, 3) := by decide +kernel
theorem dX9_isText_73 : decode cX9_isText 73 = .ok (.ifCond .ge 7, 3) := by decide +kernel
theorem dX9_isText_76 : decode cX9_isText 76 = .ok (.iconst 1, 1) := by decide +kernel
theorem dX9_isText_77 : decode cX9_isText 77 = .ok (.goto 4, 3) := by decide +kernel
theorem dX9_isText_80 : decode cX9_isText 80 = .ok (.iconst 0, 1) := by decide +kernel
theorem dX9_isText_81 : decode cX9_isText 81 = .ok (.ireturn, 1) := by decide +kernel
theorem dX9_dances_0 : decode cX9_dances 0 = .ok (.aload_n 0, 1) := by decide +kernel
theorem dX9_dances_1 : decode cX9_dances 1 = .ok (.getfield 96, 3) := by decide +kernel
theorem dX9_dances_4 : decode cX9_dances 4 = .ok (.aload_n 0, 1) := by decide +kernel
theorem dX9_dances_5 : decode cX9_dances 5 = .ok (.getfield 144, 3) := by decide +kernel
theorem dX9_dances_8 : decode cX9_dances 8 = .ok (.iload_n 1, 1) := by decide +kernel
theorem dX9_dances_9 : decode cX9_dances 9 = .ok (.iastore, 1) := by decide +kernel
theorem dX9_dances_10 : decode cX9_dances 10 = .ok (.aload_n 0, 1) := by decide +kernel
theorem dX9_dances_11 : decode cX9_dances 11 = .ok (.getfield 102, 3) := by decide +kernel
theorem dX9_dances_14 : decode cX9_dances 14 = .ok (.iload_n 1, 1) := by decide +kernel
theorem dX9_dances_15 : decode cX9_dances 15 = .ok (.bipush 100, 2) := by decide +kernel
theorem dX9_dances_17 : decode cX9_dances 17 = .ok (.irem, 1) := by decide +kernel
theorem dX9_dances_18 : decode cX9_dances 18 = .ok (.dup2, 1) := by decide +kernel
theorem dX9_dances_19 : decode cX9_dances 19 = .ok (.iaload, 1) := by decide +kernel
theorem dX9_dances_20 : decode cX9_dances 20 = .ok (.iconst 1, 1) := by decide +kernel
theorem dX9_dances_21 : decode cX9_dances 21 = .ok (.iadd, 1) := by decide +kernel
theorem dX9_dances_22 : decode cX9_dances 22 = .ok (.iastore, 1) := by decide +kernel
theorem dX9_dances_23 : decode cX9_dances 23 = .ok (.aload_n 0, 1) := by decide +kernel
theorem dX9_dances_24 : decode cX9_dances 24 = .ok (.getfield 89, 3) := by decide +kernel
theorem dX9_dances_27 : decode cX9_dances 27 = .ok (.aload_n 0, 1) := by decide +kernel
theorem dX9_dances_28 : decode cX9_dances 28 = .ok (.getfield 144, 3) := by decide +kernel
theorem dX9_dances_31 : decode cX9_dances 31 = .ok (.iconst 1, 1) := by decide +kernel
theorem dX9_dances_32 : decode cX9_dances 32 = .ok (.iadd, 1) := by decide +kernel
theorem dX9_dances_33 : decode cX9_dances 33 = .ok (.aload_n 0, 1) := by decide +kernel
theorem dX9_dances_34 : decode cX9_dances 34 = .ok (.invokevirtual 249, 3) := by decide +kernel
theorem dX9_dances_37 : decode cX9_dances 37 = .ok (.lastore, 1) := by decide +kernel
theorem dX9_dances_38 : decode cX9_dances 38 = .ok (.aload_n 0, 1) := by decide +kernel
theorem dX9_dances_39 : decode cX9_dances 39 = .ok (.dup, 1) := by decide +kernel
theorem dX9_dances_40 : decode cX9_dances 40 = .ok (.getfield 144, 3) := by decide +kernel
theorem dX9_dances_43 : decode cX9_dances 43 = .ok (.iconst 1, 1) := by decide +kernel
theorem dX9_dances_44 : decode cX9_dances 44 = .ok (.iadd, 1) := by decide +kernel
theorem dX9_dances_45 : decode cX9_dances 45 = .ok (.putfield 144, 3) := by decide +kernel
theorem dX9_dances_48 : decode cX9_dances 48 = .ok (.aload_n 0, 1) := by decide +kernel
theorem dX9_dances_49 : decode cX9_dances 49 = .ok (.iconst 0, 1) := by decide +kernel
theorem dX9_dances_50 : decode cX9_dances 50 = .ok (.putfield 252, 3) := by decide +kernel
theorem dX9_dances_53 : decode cX9_dances 53 = .ok (.aload_n 0, 1) := by decide +kernel
theorem dX9_dances_54 : decode cX9_dances 54 = .ok (.invokevirtual 255, 3) := by decide +kernel
theorem dX9_dances_57 : decode cX9_dances 57 = .ok (.return_, 1) := by decide +kernel
theorem dX9_dance_0 : decode cX9_dance 0 = .ok (.aload_n 0, 1) := by decide +kernel
theorem dX9_dance_1 : decode cX9_dance 1 = .ok (.invokevirtual 258, 3) := by decide +kernel
theorem dX9_dance_4 : decode cX9_dance 4 = .ok (.ifCond .ne 11, 3) := by decide +kernel
theorem dX9_dance_7 : decode cX9_dance 7 = .ok (.bipush (-100), 2) := by decide +kernel
theorem dX9_dance_9 : decode cX9_dance 9 = .ok (.aload_n 0, 1) := by decide +kernel
theorem dX9_dance_10 : decode cX9_dance 10 = .ok (.getfield 222, 3) := by decide +kernel
theorem dX9_dance_13 : decode cX9_dance 13 = .ok (.isub, 1) := by decide +kernel
theorem dX9_dance_14 : decode cX9_dance 14 = .ok (.ireturn, 1) := by decide +kernel
theorem dX9_dance_15 : decode cX9_dance 15 = .ok (.aload_n 0, 1) := by decide +kernel
theorem dX9_dance_16 : decode cX9_dance 16 = .ok (.getfield 144, 3) := by decide +kernel
theorem dX9_dance_19 : decode cX9_dance 19 = .ok (.aload_n 0, 1) := by decide +kernel
theorem dX9_dance_20 : decode cX9_dance 20 = .ok (.getfield 239, 3) := by decide +kernel
theorem dX9_dance_23 : decode cX9_dance 23 = .ok (.iadd, 1) := by decide +kernel
theorem dX9_dance_24 : decode cX9_dance 24 = .ok (.sipush 200, 3) := by decide +kernel
theorem dX9_dance_27 : decode cX9_dance 27 = .ok (.if_icmp .le 6, 3) := by decide +kernel
theorem dX9_dance_30 : decode cX9_dance 30 = .ok (.bipush (-3), 2) := by decide +kernel
theorem dX9_dance_32 : decode cX9_dance 32 = .ok (.ireturn, 1) := by decide +kernel
theorem dX9_dance_33 : decode cX9_dance 33 = .ok (.aload_n 0, 1) := by decide +kernel
theorem dX9_dance_34 : decode cX9_dance 34 = .ok (.iconst 0, 1) := by decide +kernel
theorem dX9_dance_35 : decode cX9_dance 35 = .ok (.putfield 262, 3) := by decide +kernel
theorem dX9_dance_38 : decode cX9_dance 38 = .ok (.aload_n 0, 1) := by decide +kernel
theorem dX9_dance_39 : decode cX9_dance 39 = .ok (.iconst 0, 1) := by decide +kernel
theorem dX9_dance_40 : decode cX9_dance 40 = .ok (.putfield 265, 3) := by decide +kernel
theorem dX9_dance_43 : decode cX9_dance 43 = .ok (.aload_n 0, 1) := by decide +kernel
theorem dX9_dance_44 : decode cX9_dance 44 = .ok (.invokevirtual 255, 3) := by decide +kernel
theorem dX9_dance_47 : decode cX9_dance 47 = .ok (.iconst 0, 1) := by decide +kernel
theorem dX9_dance_48 : decode cX9_dance 48 = .ok (.istore_n 1, 1) := by decide +kernel
theorem dX9_dance_49 : decode cX9_dance 49 = .ok (.iload_n 1, 1) := by decide +kernel
theorem dX9_dance_50 : decode cX9_dance 50 = .ok (.aload_n 0, 1) := by decide +kernel
theorem dX9_dance_51 : decode cX9_dance 51 = .ok (.getfield 239, 3) := by decide +kernel
theorem dX9_dance_54 : decode cX9_dance 54 = .ok (.if_icmp .ge 117, 3) := by decide +kernel
theorem dX9_dance_57 : decode cX9_dance 57 = .ok (.aload_n 0, 1) := by decide +kernel
theorem dX9_dance_58 : decode cX9_dance 58 = .ok (.aload_n 0, 1) := by decide +kernel
theorem dX9_dance_59 : decode cX9_dance 59 = .ok (.getfield 112, 3) := by decide +kernel
theorem dX9_dance_62 : decode cX9_dance 62 = .ok (.iload_n 1, 1) := by decide +kernel
theorem dX9_dance_63 : decode cX9_dance 63 = .ok (.iaload, 1) := by decide +kernel
theorem dX9_dance_64 : decode cX9_dance 64 = .ok (.bipush 100, 2) := by decide +kernel
theorem dX9_dance_66 : decode cX9_dance 66 = .ok (.idiv, 1) := by decide +kernel
theorem dX9_dance_67 : decode cX9_dance 67 = .ok (.aload_n 0, 1) := by decide +kernel
theorem dX9_dance_68 : decode cX9_dance 68 = .ok (.getfield 112, 3) := by decide +kernel
theorem dX9_dance_71 : decode cX9_dance 71 = .ok (.iload_n 1, 1) := by decide +kernel
theorem dX9_dance_72 : decode cX9_dance 72 = .ok (.iaload, 1) := by decide +kernel
theorem dX9_dance_73 : decode cX9_dance 73 = .ok (.bipush 100, 2) := by decide +kernel
theorem dX9_dance_75 : decode cX9_dance 75 = .ok (.irem, 1) := by decide +kernel
theorem dX9_dance_76 : decode cX9_dance 76 = .ok (.invokevirtual 268, 3) := by decide +kernel
theorem dX9_dance_79 : decode cX9_dance 79 = .ok (.ifCond .ne 76, 3) := by decide +kernel
theorem dX9_dance_82 : decode cX9_dance 82 = .ok (.aload_n 0, 1) := by decide +kernel
theorem dX9_dance_83 : decode cX9_dance 83 = .ok (.aload_n 0, 1) := by decide +kernel
theorem dX9_dance_84 : decode cX9_dance 84 = .ok (.getfield 193, 3) := by decide +kernel
theorem dX9_dance_87 : decode cX9_dance 87 = .ok (.putfield 265, 3) := by decide +kernel
theorem dX9_dance_90 : decode cX9_dance 90 = .ok (.iconst 0, 1) := by decide +kernel
theorem dX9_dance_91 : decode cX9_dance 91 = .ok (.istore_n 2, 1) := by decide +kernel
theorem dX9_dance_92 : decode cX9_dance 92 = .ok (.iload_n 2, 1) := by decide +kernel
theorem dX9_dance_93 : decode cX9_dance 93 = .ok (.bipush 8, 2) := by decide +kernel
theorem dX9_dance_95 : decode cX9_dance 95 = .ok (.if_icmp .ge 58, 3) := by decide +kernel
theorem dX9_dance_98 : decode cX9_dance 98 = .ok (.aload_n 0, 1) := by decide +kernel
theorem dX9_dance_99 : decode cX9_dance 99 = .ok (.getfield 193, 3) := by decide +kernel
theorem dX9_dance_102 : decode cX9_dance 102 = .ok (.ifCond .ne 51, 3) := by decide +kernel
theorem dX9_dance_105 : decode cX9_dance 105 = .ok (.aload_n 0, 1) := by decide +kernel
theorem dX9_dance_106 : decode cX9_dance 106 = .ok (.getfield 83, 3) := by decide +kernel
theorem dX9_dance_109 : decode cX9_dance 109 = .ok (.iload_n 2, 1) := by decide +kernel
theorem dX9_dance_110 : decode cX9_dance 110 = .ok (.iaload, 1) := by decide +kernel
theorem dX9_dance_111 : decode cX9_dance 111 = .ok (.ifCond .ne 6, 3) := by decide +kernel
theorem dX9_dance_114 : decode cX9_dance 114 = .ok (.goto 33, 3) := by decide +kernel
theorem dX9_dance_117 : decode cX9_dance 117 = .ok (.aload_n 0, 1) := by decide +kernel
theorem dX9_dance_118 : decode cX9_dance 118 = .ok (.getfield 86, 3) := by decide +kernel
theorem dX9_dance_121 : decode cX9_dance 121 = .ok (.aload_n 0, 1) := by decide +kernel
theorem dX9_dance_122 : decode cX9_dance 122 = .ok (.getfield 262, 3) := by decide +kernel
theorem dX9_dance_125 : decode cX9_dance 125 = .ok (.bipush 10, 2) := by decide +kernel
theorem dX9_dance_127 : decode cX9_dance 127 = .ok (.iload_n 2, 1) := by decide +kernel
theorem dX9_dance_128 : decode cX9_dance 128 = .ok (.imul, 1) := by decide +kernel
theorem dX9_dance_129 : decode cX9_dance 129 = .ok (.aload_n 0, 1) := by decide +kernel
theorem dX9_dance_130 : decode cX9_dance 130 = .ok (.getfield 83, 3) := by decide +kernel
theorem dX9_dance_133 : decode cX9_dance 133 = .ok (.iload_n 2, 1) := by decide +kernel
theorem dX9_dance_134 : decode cX9_dance 134 = .ok (.iaload, 1) := by decide +kernel
theorem dX9_dance_135 : decode cX9_dance 135 = .ok (.iadd, 1) := by decide +kernel
theorem dX9_dance_136 : decode cX9_dance 136 = .ok (.iastore, 1) := by decide +kernel
theorem dX9_dance_137 : decode cX9_dance 137 = .ok (.aload_n 0, 1) := by decide +kernel
theorem dX9_dance_138 : decode cX9_dance 138 = .ok (.dup, 1) := by decide +kernel
theorem dX9_dance_139 : decode cX9_dance 139 = .ok (.getfield 262, 3) := by decide +kernel
theorem dX9_dance_142 : decode cX9_dance 142 = .ok (.iconst 1, 1) := by decide +kernel
theorem dX9_dance_143 : decode cX9_dance 143 = .ok (.iadd, 1) := by decide +kernel
theorem dX9_dance_144 : decode cX9_dance 144 = .ok (.putfield 262, 3) := by decide +kernel
theorem dX9_dance_147 : decode cX9_dance 147 = .ok (.iinc 2 1, 3) := by decide +kernel
theorem dX9_dance_150 : decode cX9_dance 150 = .ok (.goto (-58), 3) := by decide +kernel
theorem dX9_dance_153 : decode cX9_dance 153 = .ok (.iload_n 1, 1) := by decide +kernel
theorem dX9_dance_154 : decode cX9_dance 154 = .ok (.ireturn, 1) := by decide +kernel
theorem dX9_dance_155 : decode cX9_dance 155 = .ok (.aload_n 0, 1) := by decide +kernel
theorem dX9_dance_156 : decode cX9_dance 156 = .ok (.aload_n 0, 1) := by decide +kernel
theorem dX9_dance_157 : decode cX9_dance 157 = .ok (.getfield 112, 3) := by decide +kernel
theorem dX9_dance_160 : decode cX9_dance 160 = .ok (.iload_n 1, 1) := by decide +kernel
theorem dX9_dance_161 : decode cX9_dance 161 = .ok (.iaload, 1) := by decide +kernel
theorem dX9_dance_162 : decode cX9_dance 162 = .ok (.invokevirtual 271, 3) := by decide +kernel
theorem dX9_dance_165 : decode cX9_dance 165 = .ok (.iinc 1 1, 3) := by decide +kernel
theorem dX9_dance_168 : decode cX9_dance 168 = .ok (.goto (-119), 3) := by decide +kernel
theorem dX9_dance_171 : decode cX9_dance 171 = .ok (.aload_n 0, 1) := by decide +kernel
theorem dX9_dance_172 : decode cX9_dance 172 = .ok (.getfield 239, 3) := by decide +kernel
theorem dX9_dance_175 : decode cX9_dance 175 = .ok (.ireturn, 1) := by decide +kernel
theorem dX9_fall_0 : decode cX9_fall 0 = .ok (.iload_n 1, 1) := by decide +kernel
theorem dX9_fall_1 : decode cX9_fall 1 = .ok (.iconst (-1), 1) := by decide +kernel
theorem dX9_fall_2 : decode cX9_fall 2 = .ok (.if_icmp .ge 5, 3) := by decide +kernel
theorem dX9_fall_5 : decode cX9_fall 5 = .ok (.iconst (-1), 1) := by decide +kernel
theorem dX9_fall_6 : decode cX9_fall 6 = .ok (.ireturn, 1) := by decide +kernel
theorem dX9_fall_7 : decode cX9_fall 7 = .ok (.iload_n 1, 1) := by decide +kernel
theorem dX9_fall_8 : decode cX9_fall 8 = .ok (.iconst 1, 1) := by decide +kernel
theorem dX9_fall_9 : decode cX9_fall 9 = .ok (.if_icmp .ge 19, 3) := by decide +kernel
theorem dX9_fall_12 : decode cX9_fall 12 = .ok (.iload_n 1, 1) := by decide +kernel
theorem dX9_fall_13 : decode cX9_fall 13 = .ok (.ifCond .ge 10, 3) := by decide +kernel
theorem dX9_fall_16 : decode cX9_fall 16 = .ok (.aload_n 0, 1) := by decide +kernel
theorem dX9_fall_17 : decode cX9_fall 17 = .ok (.getfield 265, 3) := by decide +kernel
theorem dX9_fall_20 : decode cX9_fall 20 = .ok (.goto 7, 3) := by decide +kernel
theorem dX9_fall_23 : decode cX9_fall 23 = .ok (.aload_n 0, 1) := by decide +kernel
theorem dX9_fall_24 : decode cX9_fall 24 = .ok (.getfield 262, 3) := by decide +kernel
theorem dX9_fall_27 : decode cX9_fall 27 = .ok (.ireturn, 1) := by decide +kernel
theorem dX9_fall_28 : decode cX9_fall 28 = .ok (.iload_n 1, 1) := by decide +kernel
theorem dX9_fall_29 : decode cX9_fall 29 = .ok (.aload_n 0, 1) := by decide +kernel
theorem dX9_fall_30 : decode cX9_fall 30 = .ok (.getfield 262, 3) := by decide +kernel
theorem dX9_fall_33 : decode cX9_fall 33 = .ok (.if_icmp .gt 14, 3) := by decide +kernel
theorem dX9_fall_36 : decode cX9_fall 36 = .ok (.aload_n 0, 1) := by decide +kernel
theorem dX9_fall_37 : decode cX9_fall 37 = .ok (.getfield 86, 3) := by decide +kernel
theorem dX9_fall_40 : decode cX9_fall 40 = .ok (.iload_n 1, 1) := by decide +kernel
theorem dX9_fall_41 : decode cX9_fall 41 = .ok (.iconst 1, 1) := by decide +kernel
theorem dX9_fall_42 : decode cX9_fall 42 = .ok (.isub, 1) := by decide +kernel
theorem dX9_fall_43 : decode cX9_fall 43 = .ok (.iaload, 1) := by decide +kernel
theorem dX9_fall_44 : decode cX9_fall 44 = .ok (.goto 5, 3) := by decide +kernel
theorem dX9_fall_47 : decode cX9_fall 47 = .ok (.bipush (-2), 2) := by decide +kernel
theorem dX9_fall_49 : decode cX9_fall 49 = .ok (.ireturn, 1) := by decide +kernel
theorem dX9_would_0 : decode cX9_would 0 = .ok (.aload_n 0, 1) := by decide +kernel
theorem dX9_would_1 : decode cX9_would 1 = .ok (.invokevirtual 258, 3) := by decide +kernel
theorem dX9_would_4 : decode cX9_would 4 = .ok (.ifCond .ne 11, 3) := by decide +kernel
theorem dX9_would_7 : decode cX9_would 7 = .ok (.bipush (-100), 2) := by decide +kernel
theorem dX9_would_9 : decode cX9_would 9 = .ok (.aload_n 0, 1) := by decide +kernel
theorem dX9_would_10 : decode cX9_would 10 = .ok (.getfield 222, 3) := by decide +kernel
theorem dX9_would_13 : decode cX9_would 13 = .ok (.isub, 1) := by decide +kernel
theorem dX9_would_14 : decode cX9_would 14 = .ok (.ireturn, 1) := by decide +kernel
theorem dX9_would_15 : decode cX9_would 15 = .ok (.aload_n 0, 1) := by decide +kernel
theorem dX9_would_16 : decode cX9_would 16 = .ok (.getfield 239, 3) := by decide +kernel
theorem dX9_would_19 : decode cX9_would 19 = .ok (.iconst 1, 1) := by decide +kernel
theorem dX9_would_20 : decode cX9_would 20 = .ok (.if_icmp .eq 5, 3) := by decide +kernel
theorem dX9_would_23 : decode cX9_would 23 = .ok (.iconst (-1), 1) := by decide +kernel
theorem dX9_would_24 : decode cX9_would 24 = .ok (.ireturn, 1) := by decide +kernel
theorem dX9_would_25 : decode cX9_would 25 = .ok (.aload_n 0, 1) := by decide +kernel
theorem dX9_would_26 : decode cX9_would 26 = .ok (.invokevirtual 255, 3) := by decide +kernel
theorem dX9_would_29 : decode cX9_would 29 = .ok (.aload_n 0, 1) := by decide +kernel
theorem dX9_would_30 : decode cX9_would 30 = .ok (.aload_n 0, 1) := by decide +kernel
theorem dX9_would_31 : decode cX9_would 31 = .ok (.getfield 112, 3) := by decide +kernel
theorem dX9_would_34 : decode cX9_would 34 = .ok (.iconst 0, 1) := by decide +kernel
theorem dX9_would_35 : decode cX9_would 35 = .ok (.iaload, 1) := by decide +kernel
theorem dX9_would_36 : decode cX9_would 36 = .ok (.bipush 100, 2) := by decide +kernel
theorem dX9_would_38 : decode cX9_would 38 = .ok (.idiv, 1) := by decide +kernel
theorem dX9_would_39 : decode cX9_would 39 = .ok (.aload_n 0, 1) := by decide +kernel
theorem dX9_would_40 : decode cX9_would 40 = .ok (.getfield 112, 3) := by decide +kernel
theorem dX9_would_43 : decode cX9_would 43 = .ok (.iconst 0, 1) := by decide +kernel
theorem dX9_would_44 : decode cX9_would 44 = .ok (.iaload, 1) := by decide +kernel
theorem dX9_would_45 : decode cX9_would 45 = .ok (.bipush 100, 2) := by decide +kernel
theorem dX9_would_47 : decode cX9_would 47 = .ok (.irem, 1) := by decide +kernel
theorem dX9_would_48 : decode cX9_would 48 = .ok (.invokevirtual 268, 3) := by decide +kernel
theorem dX9_would_51 : decode cX9_would 51 = .ok (.ifCond .eq 10, 3) := by decide +kernel
theorem dX9_would_54 : decode cX9_would 54 = .ok (.aload_n 0, 1) := by decide +kernel
theorem dX9_would_55 : decode cX9_would 55 = .ok (.getfield 183, 3) := by decide +kernel
theorem dX9_would_58 : decode cX9_would 58 = .ok (.goto 5, 3) := by decide +kernel
theorem dX9_would_61 : decode cX9_would 61 = .ok (.bipush (-2), 2) := by decide +kernel
theorem dX9_would_63 : decode cX9_would 63 = .ok (.ireturn, 1) := by decide +kernel
theorem dX9_undo_0 : decode cX9_undo 0 = .ok (.aload_n 0, 1) := by decide +kernel
theorem dX9_undo_1 : decode cX9_undo 1 = .ok (.getfield 144, 3) := by decide +kernel
theorem dX9_undo_4 : decode cX9_undo 4 = .ok (.ifCond .ne 6, 3) := by decide +kernel
theorem dX9_undo_7 : decode cX9_undo 7 = .ok (.bipush (-5), 2) := by decide +kernel
theorem dX9_undo_9 : decode cX9_undo 9 = .ok (.ireturn, 1) := by decide +kernel
theorem dX9_undo_10 : decode cX9_undo 10 = .ok (.aload_n 0, 1) := by decide +kernel
theorem dX9_undo_11 : decode cX9_undo 11 = .ok (.dup, 1) := by decide +kernel
theorem dX9_undo_12 : decode cX9_undo 12 = .ok (.getfield 144, 3) := by decide +kernel
theorem dX9_undo_15 : decode cX9_undo 15 = .ok (.iconst 1, 1) := by decide +kernel
theorem dX9_undo_16 : decode cX9_undo 16 = .ok (.isub, 1) := by decide +kernel
theorem dX9_undo_17 : decode cX9_undo 17 = .ok (.putfield 144, 3) := by decide +kernel
theorem dX9_undo_20 : decode cX9_undo 20 = .ok (.aload_n 0, 1) := by decide +kernel
theorem dX9_undo_21 : decode cX9_undo 21 = .ok (.dup, 1) := by decide +kernel
theorem dX9_undo_22 : decode cX9_undo 22 = .ok (.getfield 252, 3) := by decide +kernel
theorem dX9_undo_25 : decode cX9_undo 25 = .ok (.iconst 1, 1) := by decide +kernel
theorem dX9_undo_26 : decode cX9_undo 26 = .ok (.iadd, 1) := by decide +kernel
theorem dX9_undo_27 : decode cX9_undo 27 = .ok (.putfield 252, 3) := by decide +kernel
theorem dX9_undo_30 : decode cX9_undo 30 = .ok (.aload_n 0, 1) := by decide +kernel
theorem dX9_undo_31 : decode cX9_undo 31 = .ok (.getfield 144, 3) := by decide +kernel
theorem dX9_undo_34 : decode cX9_undo 34 = .ok (.ireturn, 1) := by decide +kernel
theorem dX9_redo_0 : decode cX9_redo 0 = .ok (.aload_n 0, 1) := by decide +kernel
theorem dX9_redo_1 : decode cX9_redo 1 = .ok (.getfield 252, 3) := by decide +kernel
theorem dX9_redo_4 : decode cX9_redo 4 = .ok (.ifCond .ne 6, 3) := by decide +kernel
theorem dX9_redo_7 : decode cX9_redo 7 = .ok (.bipush (-5), 2) := by decide +kernel
theorem dX9_redo_9 : decode cX9_redo 9 = .ok (.ireturn, 1) := by decide +kernel
theorem dX9_redo_10 : decode cX9_redo 10 = .ok (.aload_n 0, 1) := by decide +kernel
theorem dX9_redo_11 : decode cX9_redo 11 = .ok (.dup, 1) := by decide +kernel
theorem dX9_redo_12 : decode cX9_redo 12 = .ok (.getfield 252, 3) := by decide +kernel
theorem dX9_redo_15 : decode cX9_redo 15 = .ok (.iconst 1, 1) := by decide +kernel
theorem dX9_redo_16 : decode cX9_redo 16 = .ok (.isub, 1) := by decide +kernel
theorem dX9_redo_17 : decode cX9_redo 17 = .ok (.putfield 252, 3) := by decide +kernel
theorem dX9_redo_20 : decode cX9_redo 20 = .ok (.aload_n 0, 1) := by decide +kernel
theorem dX9_redo_21 : decode cX9_redo 21 = .ok (.getfield 102, 3) := by decide +kernel
theorem dX9_redo_24 : decode cX9_redo 24 = .ok (.aload_n 0, 1) := by decide +kernel
theorem dX9_redo_25 : decode cX9_redo 25 = .ok (.getfield 96, 3) := by decide +kernel
theorem dX9_redo_28 : decode cX9_redo 28 = .ok (.aload_n 0, 1) := by decide +kernel
theorem dX9_redo_29 : decode cX9_redo 29 = .ok (.getfield 144, 3) := by decide +kernel
theorem dX9_redo_32 : decode cX9_redo 32 = .ok (.iaload, 1) := by decide +kernel
theorem dX9_redo_33 : decode cX9_redo 33 = .ok (.bipush 100, 2) := by decide +kernel
theorem dX9_redo_35 : decode cX9_redo 35 = .ok (.irem, 1) := by decide +kernel
theorem dX9_redo_36 : decode cX9_redo 36 = .ok (.dup2, 1) := by decide +kernel
theorem dX9_redo_37 : decode cX9_redo 37 = .ok (.iaload, 1) := by decide +kernel
theorem dX9_redo_38 : decode cX9_redo 38 = .ok (.iconst 1, 1) := by decide +kernel
theorem dX9_redo_39 : decode cX9_redo 39 = .ok (.iadd, 1) := by decide +kernel
theorem dX9_redo_40 : decode cX9_redo 40 = .ok (.iastore, 1) := by decide +kernel
theorem dX9_redo_41 : decode cX9_redo 41 = .ok (.aload_n 0, 1) := by decide +kernel
theorem dX9_redo_42 : decode cX9_redo 42 = .ok (.dup, 1) := by decide +kernel
theorem dX9_redo_43 : decode cX9_redo 43 = .ok (.getfield 144, 3) := by decide +kernel
theorem dX9_redo_46 : decode cX9_redo 46 = .ok (.iconst 1, 1) := by decide +kernel
theorem dX9_redo_47 : decode cX9_redo 47 = .ok (.iadd, 1) := by decide +kernel
theorem dX9_redo_48 : decode cX9_redo 48 = .ok (.putfield 144, 3) := by decide +kernel
theorem dX9_redo_51 : decode cX9_redo 51 = .ok (.aload_n 0, 1) := by decide +kernel
theorem dX9_redo_52 : decode cX9_redo 52 = .ok (.getfield 144, 3) := by decide +kernel
theorem dX9_redo_55 : decode cX9_redo 55 = .ok (.ireturn, 1) := by decide +kernel
theorem dX9_home_0 : decode cX9_home 0 = .ok (.aload_n 0, 1) := by decide +kernel
theorem dX9_home_1 : decode cX9_home 1 = .ok (.getfield 144, 3) := by decide +kernel
theorem dX9_home_4 : decode cX9_home 4 = .ok (.istore_n 1, 1) := by decide +kernel
theorem dX9_home_5 : decode cX9_home 5 = .ok (.aload_n 0, 1) := by decide +kernel
theorem dX9_home_6 : decode cX9_home 6 = .ok (.iconst 0, 1) := by decide +kernel
theorem dX9_home_7 : decode cX9_home 7 = .ok (.putfield 144, 3) := by decide +kernel
theorem dX9_home_10 : decode cX9_home 10 = .ok (.aload_n 0, 1) := by decide +kernel
theorem dX9_home_11 : decode cX9_home 11 = .ok (.iconst 0, 1) := by decide +kernel
theorem dX9_home_12 : decode cX9_home 12 = .ok (.putfield 252, 3) := by decide +kernel
theorem dX9_home_15 : decode cX9_home 15 = .ok (.iload_n 1, 1) := by decide +kernel
theorem dX9_home_16 : decode cX9_home 16 = .ok (.ireturn, 1) := by decide +kernel
theorem dX9_at_0 : decode cX9_at 0 = .ok (.iload_n 1, 1) := by decide +kernel
theorem dX9_at_1 : decode cX9_at 1 = .ok (.iconst 0, 1) := by decide +kernel
theorem dX9_at_2 : decode cX9_at 2 = .ok (.bipush 7, 2) := by decide +kernel
theorem dX9_at_4 : decode cX9_at 4 = .ok (.invokestatic 147, 3) := by decide +kernel
theorem dX9_at_7 : decode cX9_at 7 = .ok (.ifCond .eq 12, 3) := by decide +kernel
theorem dX9_at_10 : decode cX9_at 10 = .ok (.iload_n 2, 1) := by decide +kernel
theorem dX9_at_11 : decode cX9_at 11 = .ok (.iconst 0, 1) := by decide +kernel
theorem dX9_at_12 : decode cX9_at 12 = .ok (.iconst 5, 1) := by decide +kernel
theorem dX9_at_13 : decode cX9_at 13 = .ok (.invokestatic 147, 3) := by decide +kernel
theorem dX9_at_16 : decode cX9_at 16 = .ok (.ifCond .ne 5, 3) := by decide +kernel
theorem dX9_at_19 : decode cX9_at 19 = .ok (.iconst (-1), 1) := by decide +kernel
theorem dX9_at_20 : decode cX9_at 20 = .ok (.ireturn, 1) := by decide +kernel
theorem dX9_at_21 : decode cX9_at 21 = .ok (.aload_n 0, 1) := by decide +kernel
theorem dX9_at_22 : decode cX9_at 22 = .ok (.invokevirtual 255, 3) := by decide +kernel
theorem dX9_at_25 : decode cX9_at 25 = .ok (.iload_n 2, 1) := by decide +kernel
theorem dX9_at_26 : decode cX9_at 26 = .ok (.iconst 2, 1) := by decide +kernel
theorem dX9_at_27 : decode cX9_at 27 = .ok (.if_icmp .ge 23, 3) := by decide +kernel
theorem dX9_at_30 : decode cX9_at 30 = .ok (.iload_n 2, 1) := by decide +kernel
theorem dX9_at_31 : decode cX9_at 31 = .ok (.ifCond .ne 12, 3) := by decide +kernel
theorem dX9_at_34 : decode cX9_at 34 = .ok (.aload_n 0, 1) := by decide +kernel
theorem dX9_at_35 : decode cX9_at 35 = .ok (.getfield 60, 3) := by decide +kernel
theorem dX9_at_38 : decode cX9_at 38 = .ok (.iload_n 1, 1) := by decide +kernel
theorem dX9_at_39 : decode cX9_at 39 = .ok (.iaload, 1) := by decide +kernel
theorem dX9_at_40 : decode cX9_at 40 = .ok (.goto 9, 3) := by decide +kernel
theorem dX9_at_43 : decode cX9_at 43 = .ok (.aload_n 0, 1) := by decide +kernel
theorem dX9_at_44 : decode cX9_at 44 = .ok (.getfield 64, 3) := by decide +kernel
theorem dX9_at_47 : decode cX9_at 47 = .ok (.iload_n 1, 1) := by decide +kernel
theorem dX9_at_48 : decode cX9_at 48 = .ok (.iaload, 1) := by decide +kernel
theorem dX9_at_49 : decode cX9_at 49 = .ok (.ireturn, 1) := by decide +kernel
theorem dX9_at_50 : decode cX9_at 50 = .ok (.aload_n 0, 1) := by decide +kernel
theorem dX9_at_51 : decode cX9_at 51 = .ok (.iload_n 1, 1) := by decide +kernel
theorem dX9_at_52 : decode cX9_at 52 = .ok (.iload_n 2, 1) := by decide +kernel
theorem dX9_at_53 : decode cX9_at 53 = .ok (.iconst 2, 1) := by decide +kernel
theorem dX9_at_54 : decode cX9_at 54 = .ok (.if_icmp .ne 7, 3) := by decide +kernel
theorem dX9_at_57 : decode cX9_at 57 = .ok (.iconst 0, 1) := by decide +kernel
theorem dX9_at_58 : decode cX9_at 58 = .ok (.goto 22, 3) := by decide +kernel
theorem dX9_at_61 : decode cX9_at 61 = .ok (.iload_n 2, 1) := by decide +kernel
theorem dX9_at_62 : decode cX9_at 62 = .ok (.iconst 3, 1) := by decide +kernel
theorem dX9_at_63 : decode cX9_at 63 = .ok (.if_icmp .ne 7, 3) := by decide +kernel
theorem dX9_at_66 : decode cX9_at 66 = .ok (.iconst 1, 1) := by decide +kernel
theorem dX9_at_67 : decode cX9_at 67 = .ok (.goto 13, 3) := by decide +kernel
theorem dX9_at_70 : decode cX9_at 70 = .ok (.iload_n 2, 1) := by decide +kernel
theorem dX9_at_71 : decode cX9_at 71 = .ok (.iconst 4, 1) := by decide +kernel
theorem dX9_at_72 : decode cX9_at 72 = .ok (.if_icmp .ne 7, 3) := by decide +kernel
theorem dX9_at_75 : decode cX9_at 75 = .ok (.iconst 3, 1) := by decide +kernel
theorem dX9_at_76 : decode cX9_at 76 = .ok (.goto 4, 3) := by decide +kernel
theorem dX9_at_79 : decode cX9_at 79 = .ok (.iconst 2, 1) := by decide +kernel
theorem dX9_at_80 : decode cX9_at 80 = .ok (.invokevirtual 162, 3) := by decide +kernel
theorem dX9_at_83 : decode cX9_at 83 = .ok (.ireturn, 1) := by decide +kernel
theorem dX9_on_0 : decode cX9_on 0 = .ok (.iload_n 1, 1) := by decide +kernel
theorem dX9_on_1 : decode cX9_on 1 = .ok (.iconst 0, 1) := by decide +kernel
theorem dX9_on_2 : decode cX9_on 2 = .ok (.bipush 15, 2) := by decide +kernel
theorem dX9_on_4 : decode cX9_on 4 = .ok (.invokestatic 147, 3) := by decide +kernel
theorem dX9_on_7 : decode cX9_on 7 = .ok (.ifCond .ne 5, 3) := by decide +kernel
theorem dX9_on_10 : decode cX9_on 10 = .ok (.iconst (-1), 1) := by decide +kernel
theorem dX9_on_11 : decode cX9_on 11 = .ok (.ireturn, 1) := by decide +kernel
theorem dX9_on_12 : decode cX9_on 12 = .ok (.aload_n 0, 1) := by decide +kernel
theorem dX9_on_13 : decode cX9_on 13 = .ok (.invokevirtual 255, 3) := by decide +kernel
theorem dX9_on_16 : decode cX9_on 16 = .ok (.aload_n 0, 1) := by decide +kernel
theorem dX9_on_17 : decode cX9_on 17 = .ok (.getfield 67, 3) := by decide +kernel
theorem dX9_on_20 : decode cX9_on 20 = .ok (.iload_n 1, 1) := by decide +kernel
theorem dX9_on_21 : decode cX9_on 21 = .ok (.iaload, 1) := by decide +kernel
theorem dX9_on_22 : decode cX9_on 22 = .ok (.ireturn, 1) := by decide +kernel
theorem dX9_meant_0 : decode cX9_meant 0 = .ok (.iload_n 1, 1) := by decide +kernel
theorem dX9_meant_1 : decode cX9_meant 1 = .ok (.iconst 0, 1) := by decide +kernel
theorem dX9_meant_2 : decode cX9_meant 2 = .ok (.bipush 8, 2) := by decide +kernel
theorem dX9_meant_4 : decode cX9_meant 4 = .ok (.invokestatic 147, 3) := by decide +kernel
theorem dX9_meant_7 : decode cX9_meant 7 = .ok (.ifCond .ne 5, 3) := by decide +kernel
theorem dX9_meant_10 : decode cX9_meant 10 = .ok (.iconst (-1), 1) := by decide +kernel
theorem dX9_meant_11 : decode cX9_meant 11 = .ok (.ireturn, 1) := by decide +kernel
theorem dX9_meant_12 : decode cX9_meant 12 = .ok (.aload_n 0, 1) := by decide +kernel
theorem dX9_meant_13 : decode cX9_meant 13 = .ok (.invokevirtual 255, 3) := by decide +kernel
theorem dX9_meant_16 : decode cX9_meant 16 = .ok (.aload_n 0, 1) := by decide +kernel
theorem dX9_meant_17 : decode cX9_meant 17 = .ok (.iload_n 1, 1) := by decide +kernel
theorem dX9_meant_18 : decode cX9_meant 18 = .ok (.invokevirtual 196, 3) := by decide +kernel
theorem dX9_meant_21 : decode cX9_meant 21 = .ok (.ireturn, 1) := by decide +kernel
theorem dX9_count_0 : decode cX9_count 0 = .ok (.iload_n 1, 1) := by decide +kernel
theorem dX9_count_1 : decode cX9_count 1 = .ok (.iconst 0, 1) := by decide +kernel
theorem dX9_count_2 : decode cX9_count 2 = .ok (.iconst 2, 1) := by decide +kernel
theorem dX9_count_3 : decode cX9_count 3 = .ok (.invokestatic 147, 3) := by decide +kernel
theorem dX9_count_6 : decode cX9_count 6 = .ok (.ifCond .ne 5, 3) := by decide +kernel
theorem dX9_count_9 : decode cX9_count 9 = .ok (.iconst (-1), 1) := by decide +kernel
theorem dX9_count_10 : decode cX9_count 10 = .ok (.ireturn, 1) := by decide +kernel
theorem dX9_count_11 : decode cX9_count 11 = .ok (.aload_n 0, 1) := by decide +kernel
theorem dX9_count_12 : decode cX9_count 12 = .ok (.invokevirtual 255, 3) := by decide +kernel
theorem dX9_count_15 : decode cX9_count 15 = .ok (.iconst 0, 1) := by decide +kernel
theorem dX9_count_16 : decode cX9_count 16 = .ok (.istore_n 2, 1) := by decide +kernel
theorem dX9_count_17 : decode cX9_count 17 = .ok (.iconst 0, 1) := by decide +kernel
theorem dX9_count_18 : decode cX9_count 18 = .ok (.istore_n 3, 1) := by decide +kernel
theorem dX9_count_19 : decode cX9_count 19 = .ok (.iload_n 3, 1) := by decide +kernel
theorem dX9_count_20 : decode cX9_count 20 = .ok (.bipush 8, 2) := by decide +kernel
theorem dX9_count_22 : decode cX9_count 22 = .ok (.if_icmp .ge 100, 3) := by decide +kernel
theorem dX9_count_25 : decode cX9_count 25 = .ok (.iload_n 1, 1) := by decide +kernel
theorem dX9_count_26 : decode cX9_count 26 = .ok (.iconst 2, 1) := by decide +kernel
theorem dX9_count_27 : decode cX9_count 27 = .ok (.if_icmp .ge 46, 3) := by decide +kernel
theorem dX9_count_30 : decode cX9_count 30 = .ok (.iload_n 2, 1) := by decide +kernel
theorem dX9_count_31 : decode cX9_count 31 = .ok (.aload_n 0, 1) := by decide +kernel
theorem dX9_count_32 : decode cX9_count 32 = .ok (.getfield 60, 3) := by decide +kernel
theorem dX9_count_35 : decode cX9_count 35 = .ok (.iload_n 3, 1) := by decide +kernel
theorem dX9_count_36 : decode cX9_count 36 = .ok (.iaload, 1) := by decide +kernel
theorem dX9_count_37 : decode cX9_count 37 = .ok (.getstatic 130, 3) := by decide +kernel
theorem dX9_count_40 : decode cX9_count 40 = .ok (.iload_n 3, 1) := by decide +kernel
theorem dX9_count_41 : decode cX9_count 41 = .ok (.iaload, 1) := by decide +kernel
theorem dX9_count_42 : decode cX9_count 42 = .ok (.if_icmp .ne 25, 3) := by decide +kernel
theorem dX9_count_45 : decode cX9_count 45 = .ok (.iload_n 1, 1) := by decide +kernel
theorem dX9_count_46 : decode cX9_count 46 = .ok (.ifCond .eq 17, 3) := by decide +kernel
theorem dX9_count_49 : decode cX9_count 49 = .ok (.aload_n 0, 1) := by decide +kernel
theorem dX9_count_50 : decode cX9_count 50 = .ok (.getfield 64, 3) := by decide +kernel
theorem dX9_count_53 : decode cX9_count 53 = .ok (.iload_n 3, 1) := by decide +kernel
theorem dX9_count_54 : decode cX9_count 54 = .ok (.iaload, 1) := by decide +kernel
theorem dX9_count_55 : decode cX9_count 55 = .ok (.getstatic 133, 3) := by decide +kernel
theorem dX9_count_58 : decode cX9_count 58 = .ok (.iload_n 3, 1) := by decide +kernel
theorem dX9_count_59 : decode cX9_count 59 = .ok (.iaload, 1) := by decide +kernel
theorem dX9_count_60 : decode cX9_count 60 = .ok (.if_icmp .ne 7, 3) := by decide +kernel
theorem dX9_count_63 : decode cX9_count 63 = .ok (.iconst 1, 1) := by decide +kernel
theorem dX9_count_64 : decode cX9_count 64 = .ok (.goto 4, 3) := by decide +kernel
theorem dX9_count_67 : decode cX9_count 67 = .ok (.iconst 0, 1) := by decide +kernel
theorem dX9_count_68 : decode cX9_count 68 = .ok (.iadd, 1) := by decide +kernel
theorem dX9_count_69 : decode cX9_count 69 = .ok (.istore_n 2, 1) := by decide +kernel
theorem dX9_count_70 : decode cX9_count 70 = .ok (.goto 46, 3) := by decide +kernel
theorem dX9_count_73 : decode cX9_count 73 = .ok (.iload_n 2, 1) := by decide +kernel
theorem dX9_count_74 : decode cX9_count 74 = .ok (.iload_n 3, 1) := by decide +kernel
theorem dX9_count_75 : decode cX9_count 75 = .ok (.iconst 2, 1) := by decide +kernel
theorem dX9_count_76 : decode cX9_count 76 = .ok (.irem, 1) := by decide +kernel
theorem dX9_count_77 : decode cX9_count 77 = .ok (.ifCond .ne 36, 3) := by decide +kernel
theorem dX9_count_80 : decode cX9_count 80 = .ok (.aload_n 0, 1) := by decide +kernel
theorem dX9_count_81 : decode cX9_count 81 = .ok (.iload_n 3, 1) := by decide +kernel
theorem dX9_count_82 : decode cX9_count 82 = .ok (.iconst 1, 1) := by decide +kernel
theorem dX9_count_83 : decode cX9_count 83 = .ok (.invokevirtual 162, 3) := by decide +kernel
theorem dX9_count_86 : decode cX9_count 86 = .ok (.iload_n 3, 1) := by decide +kernel
theorem dX9_count_87 : decode cX9_count 87 = .ok (.iconst 1, 1) := by decide +kernel
theorem dX9_count_88 : decode cX9_count 88 = .ok (.iadd, 1) := by decide +kernel
theorem dX9_count_89 : decode cX9_count 89 = .ok (.if_icmp .ne 24, 3) := by decide +kernel
theorem dX9_count_92 : decode cX9_count 92 = .ok (.aload_n 0, 1) := by decide +kernel
theorem dX9_count_93 : decode cX9_count 93 = .ok (.getfield 64, 3) := by decide +kernel
theorem dX9_count_96 : decode cX9_count 96 = .ok (.iload_n 3, 1) := by decide +kernel
theorem dX9_count_97 : decode cX9_count 97 = .ok (.iconst 1, 1) := by decide +kernel
theorem dX9_count_98 : decode cX9_count 98 = .ok (.iadd, 1) := by decide +kernel
theorem dX9_count_99 : decode cX9_count 99 = .ok (.iaload, 1) := by decide +kernel
theorem dX9_count_100 : decode cX9_count 100 = .ok (.aload_n 0, 1) := by decide +kernel
theorem dX9_count_101 : decode cX9_count 101 = .ok (.getfield 64, 3) := by decide +kernel
theorem dX9_count_104 : decode cX9_count 104 = .ok (.iload_n 3, 1) := by decide +kernel
theorem dX9_count_105 : decode cX9_count 105 = .ok (.iaload, 1) := by decide +kernel
theorem dX9_count_106 : decode cX9_count 106 = .ok (.if_icmp .ne 7, 3) := by decide +kernel
theorem dX9_count_109 : decode cX9_count 109 = .ok (.iconst 1, 1) := by decide +kernel
theorem dX9_count_110 : decode cX9_count 110 = .ok (.goto 4, 3) := by decide +kernel
theorem dX9_count_113 : decode cX9_count 113 = .ok (.iconst 0, 1) := by decide +kernel
theorem dX9_count_114 : decode cX9_count 114 = .ok (.iadd, 1) := by decide +kernel
theorem dX9_count_115 : decode cX9_count 115 = .ok (.istore_n 2, 1) := by decide +kernel
theorem dX9_count_116 : decode cX9_count 116 = .ok (.iinc 3 1, 3) := by decide +kernel
theorem dX9_count_119 : decode cX9_count 119 = .ok (.goto (-100), 3) := by decide +kernel
theorem dX9_count_122 : decode cX9_count 122 = .ok (.iload_n 2, 1) := by decide +kernel
theorem dX9_count_123 : decode cX9_count 123 = .ok (.ireturn, 1) := by decide +kernel
theorem dX9_searches_0 : decode cX9_searches 0 = .ok (.aload_n 0, 1) := by decide +kernel
theorem dX9_searches_1 : decode cX9_searches 1 = .ok (.getfield 115, 3) := by decide +kernel
theorem dX9_searches_4 : decode cX9_searches 4 = .ok (.iconst 0, 1) := by decide +kernel
theorem dX9_searches_5 : decode cX9_searches 5 = .ok (.aload_n 0, 1) := by decide +kernel
theorem dX9_searches_6 : decode cX9_searches 6 = .ok (.getfield 89, 3) := by decide +kernel
theorem dX9_searches_9 : decode cX9_searches 9 = .ok (.aload_n 0, 1) := by decide +kernel
theorem dX9_searches_10 : decode cX9_searches 10 = .ok (.getfield 144, 3) := by decide +kernel
theorem dX9_searches_13 : decode cX9_searches 13 = .ok (.laload, 1) := by decide +kernel
theorem dX9_searches_14 : decode cX9_searches 14 = .ok (.lastore, 1) := by decide +kernel
theorem dX9_searches_15 : decode cX9_searches 15 = .ok (.aload_n 0, 1) := by decide +kernel
theorem dX9_searches_16 : decode cX9_searches 16 = .ok (.getfield 115, 3) := by decide +kernel
theorem dX9_searches_19 : decode cX9_searches 19 = .ok (.iconst 0, 1) := by decide +kernel
theorem dX9_searches_20 : decode cX9_searches 20 = .ok (.laload, 1) := by decide +kernel
theorem dX9_searches_21 : decode cX9_searches 21 = .ok (.aload_n 0, 1) := by decide +kernel
theorem dX9_searches_22 : decode cX9_searches 22 = .ok (.getfield 89, 3) := by decide +kernel
theorem dX9_searches_25 : decode cX9_searches 25 = .ok (.iconst 0, 1) := by decide +kernel
theorem dX9_searches_26 : decode cX9_searches 26 = .ok (.laload, 1) := by decide +kernel
theorem dX9_searches_27 : decode cX9_searches 27 = .ok (.lcmp, 1) := by decide +kernel
theorem dX9_searches_28 : decode cX9_searches 28 = .ok (.ifCond .ne 5, 3) := by decide +kernel
theorem dX9_searches_31 : decode cX9_searches 31 = .ok (.iconst 0, 1) := by decide +kernel
theorem dX9_searches_32 : decode cX9_searches 32 = .ok (.ireturn, 1) := by decide +kernel
theorem dX9_searches_33 : decode cX9_searches 33 = .ok (.iconst 1, 1) := by decide +kernel
theorem dX9_searches_34 : decode cX9_searches 34 = .ok (.istore_n 1, 1) := by decide +kernel
theorem dX9_searches_35 : decode cX9_searches 35 = .ok (.iconst 0, 1) := by decide +kernel
theorem dX9_searches_36 : decode cX9_searches 36 = .ok (.istore_n 2, 1) := by decide +kernel
theorem dX9_searches_37 : decode cX9_searches 37 = .ok (.iload_n 2, 1) := by decide +kernel
theorem dX9_searches_38 : decode cX9_searches 38 = .ok (.iload_n 1, 1) := by decide +kernel
theorem dX9_searches_39 : decode cX9_searches 39 = .ok (.if_icmp .ge 180, 3) := by decide +kernel
theorem dX9_searches_42 : decode cX9_searches 42 = .ok (.iconst 0, 1) := by decide +kernel
theorem dX9_searches_43 : decode cX9_searches 43 = .ok (.istore_n 3, 1) := by decide +kernel
theorem dX9_searches_44 : decode cX9_searches 44 = .ok (.iload_n 3, 1) := by decide +kernel
theorem dX9_searches_45 : decode cX9_searches 45 = .ok (.bipush 108, 2) := by decide +kernel
theorem dX9_searches_47 : decode cX9_searches 47 = .ok (.if_icmp .ge 166, 3) := by decide +kernel
theorem dX9_searches_50 : decode cX9_searches 50 = .ok (.aload_n 0, 1) := by decide +kernel
theorem dX9_searches_51 : decode cX9_searches 51 = .ok (.aload_n 0, 1) := by decide +kernel
theorem dX9_searches_52 : decode cX9_searches 52 = .ok (.getfield 115, 3) := by decide +kernel
theorem dX9_searches_55 : decode cX9_searches 55 = .ok (.iload_n 2, 1) := by decide +kernel
theorem dX9_searches_56 : decode cX9_searches 56 = .ok (.laload, 1) := by decide +kernel
theorem dX9_searches_57 : decode cX9_searches 57 = .ok (.invokevirtual 140, 3) := by decide +kernel
theorem dX9_searches_60 : decode cX9_searches 60 = .ok (.aload_n 0, 1) := by decide +kernel
theorem dX9_searches_61 : decode cX9_searches 61 = .ok (.iload_n 3, 1) := by decide +kernel
theorem dX9_searches_62 : decode cX9_searches 62 = .ok (.bipush 12, 2) := by decide +kernel
theorem dX9_searches_64 : decode cX9_searches 64 = .ok (.idiv, 1) := by decide +kernel
theorem dX9_searches_65 : decode cX9_searches 65 = .ok (.iload_n 3, 1) := by decide +kernel
theorem dX9_searches_66 : decode cX9_searches 66 = .ok (.bipush 12, 2) := by decide +kernel
theorem dX9_searches_68 : decode cX9_searches 68 = .ok (.irem, 1) := by decide +kernel
theorem dX9_searches_69 : decode cX9_searches 69 = .ok (.invokevirtual 268, 3) := by decide +kernel
theorem dX9_searches_72 : decode cX9_searches 72 = .ok (.ifCond .ne 6, 3) := by decide +kernel
theorem dX9_searches_75 : decode cX9_searches 75 = .ok (.goto 132, 3) := by decide +kernel
theorem dX9_searches_78 : decode cX9_searches 78 = .ok (.aload_n 0, 1) := by decide +kernel
theorem dX9_searches_79 : decode cX9_searches 79 = .ok (.invokevirtual 249, 3) := by decide +kernel
theorem dX9_searches_82 : decode cX9_searches 82 = .ok (.lstore 4, 2) := by decide +kernel
theorem dX9_searches_84 : decode cX9_searches 84 = .ok (.iconst 1, 1) := by decide +kernel
theorem dX9_searches_85 : decode cX9_searches 85 = .ok (.istore 6, 2) := by decide +kernel
theorem dX9_searches_87 : decode cX9_searches 87 = .ok (.iconst 0, 1) := by decide +kernel
theorem dX9_searches_88 : decode cX9_searches 88 = .ok (.istore 7, 2) := by decide +kernel
theorem dX9_searches_90 : decode cX9_searches 90 = .ok (.iload 7, 2) := by decide +kernel
theorem dX9_searches_92 : decode cX9_searches 92 = .ok (.iload_n 1, 1) := by decide +kernel
theorem dX9_searches_93 : decode cX9_searches 93 = .ok (.if_icmp .ge 34, 3) := by decide +kernel
theorem dX9_searches_96 : decode cX9_searches 96 = .ok (.iload 6, 2) := by decide +kernel
theorem dX9_searches_98 : decode cX9_searches 98 = .ok (.ifCond .eq 29, 3) := by decide +kernel
theorem dX9_searches_101 : decode cX9_searches 101 = .ok (.aload_n 0, 1) := by decide +kernel
theorem dX9_searches_102 : decode cX9_searches 102 = .ok (.getfield 115, 3) := by decide +kernel
theorem dX9_searches_105 : decode cX9_searches 105 = .ok (.iload 7, 2) := by decide +kernel
theorem dX9_searches_107 : decode cX9_searches 107 = .ok (.laload, 1) := by decide +kernel
theorem dX9_searches_108 : decode cX9_searches 108 = .ok (.lload 4, 2) := by decide +kernel
theorem dX9_searches_110 : decode cX9_searches 110 = .ok (.lcmp, 1) := by decide +kernel
theorem dX9_searches_111 : decode cX9_searches 111 = .ok (.ifCond .eq 7, 3) := by decide +kernel
theorem dX9_searches_114 : decode cX9_searches 114 = .ok (.iconst 1, 1) := by decide +kernel
theorem dX9_searches_115 : decode cX9_searches 115 = .ok (.goto 4, 3) := by decide +kernel
theorem dX9_searches_118 : decode cX9_searches 118 = .ok (.iconst 0, 1) := by decide +kernel
theorem dX9_searches_119 : decode cX9_searches 119 = .ok (.istore 6, 2) := by decide +kernel
theorem dX9_searches_121 : decode cX9_searches 121 = .ok (.iinc 7 1, 3) := by decide +kernel
theorem dX9_searches_124 : decode cX9_searches 124 = .ok (.goto (-34), 3) := by decide +kernel
theorem dX9_searches_127 : decode cX9_searches 127 = .ok (.iload 6, 2) := by decide +kernel
theorem dX9_searches_129 : decode cX9_searches 129 = .ok (.ifCond .ne 6, 3) := by decide +kernel
theorem dX9_searches_132 : decode cX9_searches 132 = .ok (.goto 75, 3) := by decide +kernel
theorem dX9_searches_135 : decode cX9_searches 135 = .ok (.iload_n 1, 1) := by decide +kernel
theorem dX9_searches_136 : decode cX9_searches 136 = .ok (.sipush 250, 3) := by decide +kernel
theorem dX9_searches_139 : decode cX9_searches 139 = .ok (.if_icmp .ne 18, 3) := by decide +kernel
theorem dX9_searches_142 : decode cX9_searches 142 = .ok (.lload 4, 2) := by decide +kernel
theorem dX9_searches_144 : decode cX9_searches 144 = .ok (.aload_n 0, 1) := by decide +kernel
theorem dX9_searches_145 : decode cX9_searches 145 = .ok (.getfield 89, 3) := by decide +kernel
theorem dX9_searches_148 : decode cX9_searches 148 = .ok (.iconst 0, 1) := by decide +kernel
theorem dX9_searches_149 : decode cX9_searches 149 = .ok (.laload, 1) := by decide +kernel
theorem dX9_searches_150 : decode cX9_searches 150 = .ok (.lcmp, 1) := by decide +kernel
theorem dX9_searches_151 : decode cX9_searches 151 = .ok (.ifCond .eq 6, 3) := by decide +kernel
theorem dX9_searches_154 : decode cX9_searches 154 = .ok (.bipush (-7), 2) := by decide +kernel
theorem dX9_searches_156 : decode cX9_searches 156 = .ok (.ireturn, 1) := by decide +kernel
theorem dX9_searches_157 : decode cX9_searches 157 = .ok (.aload_n 0, 1) := by decide +kernel
theorem dX9_searches_158 : decode cX9_searches 158 = .ok (.getfield 115, 3) := by decide +kernel
theorem dX9_searches_161 : decode cX9_searches 161 = .ok (.iload_n 1, 1) := by decide +kernel
theorem dX9_searches_162 : decode cX9_searches 162 = .ok (.lload 4, 2) := by decide +kernel
theorem dX9_searches_164 : decode cX9_searches 164 = .ok (.lastore, 1) := by decide +kernel
theorem dX9_searches_165 : decode cX9_searches 165 = .ok (.aload_n 0, 1) := by decide +kernel
theorem dX9_searches_166 : decode cX9_searches 166 = .ok (.getfield 118, 3) := by decide +kernel
theorem dX9_searches_169 : decode cX9_searches 169 = .ok (.iload_n 1, 1) := by decide +kernel
theorem dX9_searches_170 : decode cX9_searches 170 = .ok (.iload_n 2, 1) := by decide +kernel
theorem dX9_searches_171 : decode cX9_searches 171 = .ok (.iastore, 1) := by decide +kernel
theorem dX9_searches_172 : decode cX9_searches 172 = .ok (.aload_n 0, 1) := by decide +kernel
theorem dX9_searches_173 : decode cX9_searches 173 = .ok (.getfield 121, 3) := by decide +kernel
theorem dX9_searches_176 : decode cX9_searches 176 = .ok (.iload_n 1, 1) := by decide +kernel
theorem dX9_searches_177 : decode cX9_searches 177 = .ok (.bipush 100, 2) := by decide +kernel
theorem dX9_searches_179 : decode cX9_searches 179 = .ok (.iload_n 3, 1) := by decide +kernel
theorem dX9_searches_180 : decode cX9_searches 180 = .ok (.bipush 12, 2) := by decide +kernel
theorem dX9_searches_182 : decode cX9_searches 182 = .ok (.idiv, 1) := by decide +kernel
theorem dX9_searches_183 : decode cX9_searches 183 = .ok (.imul, 1) := by decide +kernel
theorem dX9_searches_184 : decode cX9_searches 184 = .ok (.iload_n 3, 1) := by decide +kernel
theorem dX9_searches_185 : decode cX9_searches 185 = .ok (.bipush 12, 2) := by decide +kernel
theorem dX9_searches_187 : decode cX9_searches 187 = .ok (.irem, 1) := by decide +kernel
theorem dX9_searches_188 : decode cX9_searches 188 = .ok (.iadd, 1) := by decide +kernel
theorem dX9_searches_189 : decode cX9_searches 189 = .ok (.iastore, 1) := by decide +kernel
theorem dX9_searches_190 : decode cX9_searches 190 = .ok (.lload 4, 2) := by decide +kernel
theorem dX9_searches_192 : decode cX9_searches 192 = .ok (.aload_n 0, 1) := by decide +kernel
theorem dX9_searches_193 : decode cX9_searches 193 = .ok (.getfield 89, 3) := by decide +kernel
theorem dX9_searches_196 : decode cX9_searches 196 = .ok (.iconst 0, 1) := by decide +kernel
theorem dX9_searches_197 : decode cX9_searches 197 = .ok (.laload, 1) := by decide +kernel
theorem dX9_searches_198 : decode cX9_searches 198 = .ok (.lcmp, 1) := by decide +kernel
theorem dX9_searches_199 : decode cX9_searches 199 = .ok (.ifCond .ne 5, 3) := by decide +kernel
theorem dX9_searches_202 : decode cX9_searches 202 = .ok (.iload_n 1, 1) := by decide +kernel
theorem dX9_searches_203 : decode cX9_searches 203 = .ok (.ireturn, 1) := by decide +kernel
theorem dX9_searches_204 : decode cX9_searches 204 = .ok (.iinc 1 1, 3) := by decide +kernel
theorem dX9_searches_207 : decode cX9_searches 207 = .ok (.iinc 3 1, 3) := by decide +kernel
theorem dX9_searches_210 : decode cX9_searches 210 = .ok (.goto (-166), 3) := by decide +kernel
theorem dX9_searches_213 : decode cX9_searches 213 = .ok (.iinc 2 1, 3) := by decide +kernel
theorem dX9_searches_216 : decode cX9_searches 216 = .ok (.goto (-179), 3) := by decide +kernel
theorem dX9_searches_219 : decode cX9_searches 219 = .ok (.bipush (-5), 2) := by decide +kernel
theorem dX9_searches_221 : decode cX9_searches 221 = .ok (.ireturn, 1) := by decide +kernel
theorem dX9_way_0 : decode cX9_way 0 = .ok (.iload_n 1, 1) := by decide +kernel
theorem dX9_way_1 : decode cX9_way 1 = .ok (.iconst (-1), 1) := by decide +kernel
theorem dX9_way_2 : decode cX9_way 2 = .ok (.if_icmp .ge 5, 3) := by decide +kernel
theorem dX9_way_5 : decode cX9_way 5 = .ok (.iconst (-1), 1) := by decide +kernel
theorem dX9_way_6 : decode cX9_way 6 = .ok (.ireturn, 1) := by decide +kernel
theorem dX9_way_7 : decode cX9_way 7 = .ok (.aload_n 0, 1) := by decide +kernel
theorem dX9_way_8 : decode cX9_way 8 = .ok (.invokevirtual 274, 3) := by decide +kernel
theorem dX9_way_11 : decode cX9_way 11 = .ok (.istore_n 2, 1) := by decide +kernel
theorem dX9_way_12 : decode cX9_way 12 = .ok (.iload_n 2, 1) := by decide +kernel
theorem dX9_way_13 : decode cX9_way 13 = .ok (.ifCond .ge 17, 3) := by decide +kernel
theorem dX9_way_16 : decode cX9_way 16 = .ok (.iload_n 2, 1) := by decide +kernel
theorem dX9_way_17 : decode cX9_way 17 = .ok (.bipush (-7), 2) := by decide +kernel
theorem dX9_way_19 : decode cX9_way 19 = .ok (.if_icmp .ne 8, 3) := by decide +kernel
theorem dX9_way_22 : decode cX9_way 22 = .ok (.bipush (-7), 2) := by decide +kernel
theorem dX9_way_24 : decode cX9_way 24 = .ok (.goto 5, 3) := by decide +kernel
theorem dX9_way_27 : decode cX9_way 27 = .ok (.bipush (-2), 2) := by decide +kernel
theorem dX9_way_29 : decode cX9_way 29 = .ok (.ireturn, 1) := by decide +kernel
theorem dX9_way_30 : decode cX9_way 30 = .ok (.iconst 0, 1) := by decide +kernel
theorem dX9_way_31 : decode cX9_way 31 = .ok (.istore_n 3, 1) := by decide +kernel
theorem dX9_way_32 : decode cX9_way 32 = .ok (.iload_n 2, 1) := by decide +kernel
theorem dX9_way_33 : decode cX9_way 33 = .ok (.istore 4, 2) := by decide +kernel
theorem dX9_way_35 : decode cX9_way 35 = .ok (.iload 4, 2) := by decide +kernel
theorem dX9_way_37 : decode cX9_way 37 = .ok (.ifCond .le 31, 3) := by decide +kernel
theorem dX9_way_40 : decode cX9_way 40 = .ok (.aload_n 0, 1) := by decide +kernel
theorem dX9_way_41 : decode cX9_way 41 = .ok (.getfield 124, 3) := by decide +kernel
theorem dX9_way_44 : decode cX9_way 44 = .ok (.iload_n 3, 1) := by decide +kernel
theorem dX9_way_45 : decode cX9_way 45 = .ok (.aload_n 0, 1) := by decide +kernel
theorem dX9_way_46 : decode cX9_way 46 = .ok (.getfield 121, 3) := by decide +kernel
theorem dX9_way_49 : decode cX9_way 49 = .ok (.iload 4, 2) := by decide +kernel
theorem dX9_way_51 : decode cX9_way 51 = .ok (.iaload, 1) := by decide +kernel
theorem dX9_way_52 : decode cX9_way 52 = .ok (.iastore, 1) := by decide +kernel
theorem dX9_way_53 : decode cX9_way 53 = .ok (.iinc 3 1, 3) := by decide +kernel
theorem dX9_way_56 : decode cX9_way 56 = .ok (.aload_n 0, 1) := by decide +kernel
theorem dX9_way_57 : decode cX9_way 57 = .ok (.getfield 118, 3) := by decide +kernel
theorem dX9_way_60 : decode cX9_way 60 = .ok (.iload 4, 2) := by decide +kernel
theorem dX9_way_62 : decode cX9_way 62 = .ok (.iaload, 1) := by decide +kernel
theorem dX9_way_63 : decode cX9_way 63 = .ok (.istore 4, 2) := by decide +kernel
theorem dX9_way_65 : decode cX9_way 65 = .ok (.goto (-30), 3) := by decide +kernel
theorem dX9_way_68 : decode cX9_way 68 = .ok (.iload_n 1, 1) := by decide +kernel
theorem dX9_way_69 : decode cX9_way 69 = .ok (.ifCond .ge 7, 3) := by decide +kernel
theorem dX9_way_72 : decode cX9_way 72 = .ok (.iload_n 3, 1) := by decide +kernel
theorem dX9_way_73 : decode cX9_way 73 = .ok (.goto 23, 3) := by decide +kernel
theorem dX9_way_76 : decode cX9_way 76 = .ok (.iload_n 1, 1) := by decide +kernel
theorem dX9_way_77 : decode cX9_way 77 = .ok (.iload_n 3, 1) := by decide +kernel
theorem dX9_way_78 : decode cX9_way 78 = .ok (.if_icmp .ge 16, 3) := by decide +kernel
theorem dX9_way_81 : decode cX9_way 81 = .ok (.aload_n 0, 1) := by decide +kernel
theorem dX9_way_82 : decode cX9_way 82 = .ok (.getfield 124, 3) := by decide +kernel
theorem dX9_way_85 : decode cX9_way 85 = .ok (.iload_n 3, 1) := by decide +kernel
theorem dX9_way_86 : decode cX9_way 86 = .ok (.iconst 1, 1) := by decide +kernel
theorem dX9_way_87 : decode cX9_way 87 = .ok (.isub, 1) := by decide +kernel
theorem dX9_way_88 : decode cX9_way 88 = .ok (.iload_n 1, 1) := by decide +kernel
theorem dX9_way_89 : decode cX9_way 89 = .ok (.isub, 1) := by decide +kernel
theorem dX9_way_90 : decode cX9_way 90 = .ok (.iaload, 1) := by decide +kernel
theorem dX9_way_91 : decode cX9_way 91 = .ok (.goto 5, 3) := by decide +kernel
theorem dX9_way_94 : decode cX9_way 94 = .ok (.bipush (-2), 2) := by decide +kernel
theorem dX9_way_96 : decode cX9_way 96 = .ok (.ireturn, 1) := by decide +kernel
theorem dX9_round_0 : decode cX9_round 0 = .ok (.aload_n 0, 1) := by decide +kernel
theorem dX9_round_1 : decode cX9_round 1 = .ok (.invokevirtual 258, 3) := by decide +kernel
theorem dX9_round_4 : decode cX9_round 4 = .ok (.ifCond .ne 11, 3) := by decide +kernel
theorem dX9_round_7 : decode cX9_round 7 = .ok (.bipush (-100), 2) := by decide +kernel
theorem dX9_round_9 : decode cX9_round 9 = .ok (.aload_n 0, 1) := by decide +kernel
theorem dX9_round_10 : decode cX9_round 10 = .ok (.getfield 222, 3) := by decide +kernel
theorem dX9_round_13 : decode cX9_round 13 = .ok (.isub, 1) := by decide +kernel
theorem dX9_round_14 : decode cX9_round 14 = .ok (.ireturn, 1) := by decide +kernel
theorem dX9_round_15 : decode cX9_round 15 = .ok (.aload_n 0, 1) := by decide +kernel
theorem dX9_round_16 : decode cX9_round 16 = .ok (.invokevirtual 255, 3) := by decide +kernel
theorem dX9_round_19 : decode cX9_round 19 = .ok (.iconst 1, 1) := by decide +kernel
theorem dX9_round_20 : decode cX9_round 20 = .ok (.istore_n 1, 1) := by decide +kernel
theorem dX9_round_21 : decode cX9_round 21 = .ok (.iload_n 1, 1) := by decide +kernel
theorem dX9_round_22 : decode cX9_round 22 = .ok (.bipush 100, 2) := by decide +kernel
theorem dX9_round_24 : decode cX9_round 24 = .ok (.if_icmp .gt 80, 3) := by decide +kernel
theorem dX9_round_27 : decode cX9_round 27 = .ok (.iconst 0, 1) := by decide +kernel
theorem dX9_round_28 : decode cX9_round 28 = .ok (.istore_n 2, 1) := by decide +kernel
theorem dX9_round_29 : decode cX9_round 29 = .ok (.iload_n 2, 1) := by decide +kernel
theorem dX9_round_30 : decode cX9_round 30 = .ok (.aload_n 0, 1) := by decide +kernel
theorem dX9_round_31 : decode cX9_round 31 = .ok (.getfield 239, 3) := by decide +kernel
theorem dX9_round_34 : decode cX9_round 34 = .ok (.if_icmp .ge 45, 3) := by decide +kernel
theorem dX9_round_37 : decode cX9_round 37 = .ok (.aload_n 0, 1) := by decide +kernel
theorem dX9_round_38 : decode cX9_round 38 = .ok (.aload_n 0, 1) := by decide +kernel
theorem dX9_round_39 : decode cX9_round 39 = .ok (.getfield 112, 3) := by decide +kernel
theorem dX9_round_42 : decode cX9_round 42 = .ok (.iload_n 2, 1) := by decide +kernel
theorem dX9_round_43 : decode cX9_round 43 = .ok (.iaload, 1) := by decide +kernel
theorem dX9_round_44 : decode cX9_round 44 = .ok (.bipush 100, 2) := by decide +kernel
theorem dX9_round_46 : decode cX9_round 46 = .ok (.idiv, 1) := by decide +kernel
theorem dX9_round_47 : decode cX9_round 47 = .ok (.aload_n 0, 1) := by decide +kernel
theorem dX9_round_48 : decode cX9_round 48 = .ok (.getfield 112, 3) := by decide +kernel
theorem dX9_round_51 : decode cX9_round 51 = .ok (.iload_n 2, 1) := by decide +kernel
theorem dX9_round_52 : decode cX9_round 52 = .ok (.iaload, 1) := by decide +kernel
theorem dX9_round_53 : decode cX9_round 53 = .ok (.bipush 100, 2) := by decide +kernel
theorem dX9_round_55 : decode cX9_round 55 = .ok (.irem, 1) := by decide +kernel
theorem dX9_round_56 : decode cX9_round 56 = .ok (.invokevirtual 268, 3) := by decide +kernel
theorem dX9_round_59 : decode cX9_round 59 = .ok (.ifCond .ne 6, 3) := by decide +kernel
theorem dX9_round_62 : decode cX9_round 62 = .ok (.bipush (-2), 2) := by decide +kernel
theorem dX9_round_64 : decode cX9_round 64 = .ok (.ireturn, 1) := by decide +kernel
theorem dX9_round_65 : decode cX9_round 65 = .ok (.aload_n 0, 1) := by decide +kernel
theorem dX9_round_66 : decode cX9_round 66 = .ok (.aload_n 0, 1) := by decide +kernel
theorem dX9_round_67 : decode cX9_round 67 = .ok (.invokevirtual 249, 3) := by decide +kernel
theorem dX9_round_70 : decode cX9_round 70 = .ok (.invokevirtual 140, 3) := by decide +kernel
theorem dX9_round_73 : decode cX9_round 73 = .ok (.iinc 2 1, 3) := by decide +kernel
theorem dX9_round_76 : decode cX9_round 76 = .ok (.goto (-47), 3) := by decide +kernel
theorem dX9_round_79 : decode cX9_round 79 = .ok (.aload_n 0, 1) := by decide +kernel
theorem dX9_round_80 : decode cX9_round 80 = .ok (.invokevirtual 136, 3) := by decide +kernel
theorem dX9_round_83 : decode cX9_round 83 = .ok (.aload_n 0, 1) := by decide +kernel
theorem dX9_round_84 : decode cX9_round 84 = .ok (.getfield 89, 3) := by decide +kernel
theorem dX9_round_87 : decode cX9_round 87 = .ok (.aload_n 0, 1) := by decide +kernel
theorem dX9_round_88 : decode cX9_round 88 = .ok (.getfield 144, 3) := by decide +kernel
theorem dX9_round_91 : decode cX9_round 91 = .ok (.laload, 1) := by decide +kernel
theorem dX9_round_92 : decode cX9_round 92 = .ok (.lcmp, 1) := by decide +kernel
theorem dX9_round_93 : decode cX9_round 93 = .ok (.ifCond .ne 5, 3) := by decide +kernel
theorem dX9_round_96 : decode cX9_round 96 = .ok (.iload_n 1, 1) := by decide +kernel
theorem dX9_round_97 : decode cX9_round 97 = .ok (.ireturn, 1) := by decide +kernel
theorem dX9_round_98 : decode cX9_round 98 = .ok (.iinc 1 1, 3) := by decide +kernel
theorem dX9_round_101 : decode cX9_round 101 = .ok (.goto (-80), 3) := by decide +kernel
theorem dX9_round_104 : decode cX9_round 104 = .ok (.bipush (-2), 2) := by decide +kernel
theorem dX9_round_106 : decode cX9_round 106 = .ok (.ireturn, 1) := by decide +kernel
theorem dX9_quarter_0 : decode cX9_quarter 0 = .ok (.lconst 0, 1) := by decide +kernel
theorem dX9_quarter_1 : decode cX9_quarter 1 = .ok (.lstore 4, 2) := by decide +kernel
theorem dX9_quarter_3 : decode cX9_quarter 3 = .ok (.iconst 0, 1) := by decide +kernel
theorem dX9_quarter_4 : decode cX9_quarter 4 = .ok (.istore 6, 2) := by decide +kernel
theorem dX9_quarter_6 : decode cX9_quarter 6 = .ok (.iload 6, 2) := by decide +kernel
theorem dX9_quarter_8 : decode cX9_quarter 8 = .ok (.bipush 8, 2) := by decide +kernel
theorem dX9_quarter_10 : decode cX9_quarter 10 = .ok (.if_icmp .ge 85, 3) := by decide +kernel
theorem dX9_quarter_13 : decode cX9_quarter 13 = .ok (.lload_n 1, 1) := by decide +kernel
theorem dX9_quarter_14 : decode cX9_quarter 14 = .ok (.bipush 6, 2) := by decide +kernel
theorem dX9_quarter_16 : decode cX9_quarter 16 = .ok (.iload 6, 2) := by decide +kernel
theorem dX9_quarter_18 : decode cX9_quarter 18 = .ok (.imul, 1) := by decide +kernel
theorem dX9_quarter_19 : decode cX9_quarter 19 = .ok (.lshr, 1) := by decide +kernel
theorem dX9_quarter_20 : decode cX9_quarter 20 = .ok (.l2i, 1) := by decide +kernel
theorem dX9_quarter_21 : decode cX9_quarter 21 = .ok (.bipush 63, 2) := by decide +kernel
theorem dX9_quarter_23 : decode cX9_quarter 23 = .ok (.iand, 1) := by decide +kernel
theorem dX9_quarter_24 : decode cX9_quarter 24 = .ok (.istore 7, 2) := by decide +kernel
theorem dX9_quarter_26 : decode cX9_quarter 26 = .ok (.iload 7, 2) := by decide +kernel
theorem dX9_quarter_28 : decode cX9_quarter 28 = .ok (.iconst 4, 1) := by decide +kernel
theorem dX9_quarter_29 : decode cX9_quarter 29 = .ok (.idiv, 1) := by decide +kernel
theorem dX9_quarter_30 : decode cX9_quarter 30 = .ok (.iconst 4, 1) := by decide +kernel
theorem dX9_quarter_31 : decode cX9_quarter 31 = .ok (.irem, 1) := by decide +kernel
theorem dX9_quarter_32 : decode cX9_quarter 32 = .ok (.istore 8, 2) := by decide +kernel
theorem dX9_quarter_34 : decode cX9_quarter 34 = .ok (.iload 7, 2) := by decide +kernel
theorem dX9_quarter_36 : decode cX9_quarter 36 = .ok (.bipush 16, 2) := by decide +kernel
theorem dX9_quarter_38 : decode cX9_quarter 38 = .ok (.idiv, 1) := by decide +kernel
theorem dX9_quarter_39 : decode cX9_quarter 39 = .ok (.istore 9, 2) := by decide +kernel
theorem dX9_quarter_41 : decode cX9_quarter 41 = .ok (.iconst 4, 1) := by decide +kernel
theorem dX9_quarter_42 : decode cX9_quarter 42 = .ok (.iload 8, 2) := by decide +kernel
theorem dX9_quarter_44 : decode cX9_quarter 44 = .ok (.imul, 1) := by decide +kernel
theorem dX9_quarter_45 : decode cX9_quarter 45 = .ok (.iconst 3, 1) := by decide +kernel
theorem dX9_quarter_46 : decode cX9_quarter 46 = .ok (.iadd, 1) := by decide +kernel
theorem dX9_quarter_47 : decode cX9_quarter 47 = .ok (.iload 9, 2) := by decide +kernel
theorem dX9_quarter_49 : decode cX9_quarter 49 = .ok (.isub, 1) := by decide +kernel
theorem dX9_quarter_50 : decode cX9_quarter 50 = .ok (.istore 10, 2) := by decide +kernel
theorem dX9_quarter_52 : decode cX9_quarter 52 = .ok (.lload 4, 2) := by decide +kernel
theorem dX9_quarter_54 : decode cX9_quarter 54 = .ok (.iconst 4, 1) := by decide +kernel
theorem dX9_quarter_55 : decode cX9_quarter 55 = .ok (.iload 10, 2) := by decide +kernel
theorem dX9_quarter_57 : decode cX9_quarter 57 = .ok (.imul, 1) := by decide +kernel
theorem dX9_quarter_58 : decode cX9_quarter 58 = .ok (.iload 7, 2) := by decide +kernel
theorem dX9_quarter_60 : decode cX9_quarter 60 = .ok (.iconst 3, 1) := by decide +kernel
theorem dX9_quarter_61 : decode cX9_quarter 61 = .ok (.iadd, 1) := by decide +kernel
theorem dX9_quarter_62 : decode cX9_quarter 62 = .ok (.iconst 4, 1) := by decide +kernel
theorem dX9_quarter_63 : decode cX9_quarter 63 = .ok (.irem, 1) := by decide +kernel
theorem dX9_quarter_64 : decode cX9_quarter 64 = .ok (.iadd, 1) := by decide +kernel
theorem dX9_quarter_65 : decode cX9_quarter 65 = .ok (.i2l, 1) := by decide +kernel
theorem dX9_quarter_66 : decode cX9_quarter 66 = .ok (.bipush 6, 2) := by decide +kernel
theorem dX9_quarter_68 : decode cX9_quarter 68 = .ok (.iload_n 3, 1) := by decide +kernel
theorem dX9_quarter_69 : decode cX9_quarter 69 = .ok (.ifCond .eq 13, 3) := by decide +kernel
theorem dX9_quarter_72 : decode cX9_quarter 72 = .ok (.iload 6, 2) := by decide +kernel
theorem dX9_quarter_74 : decode cX9_quarter 74 = .ok (.iconst 2, 1) := by decide +kernel
theorem dX9_quarter_75 : decode cX9_quarter 75 = .ok (.iadd, 1) := by decide +kernel
theorem dX9_quarter_76 : decode cX9_quarter 76 = .ok (.bipush 8, 2) := by decide +kernel
theorem dX9_quarter_78 : decode cX9_quarter 78 = .ok (.irem, 1) := by decide +kernel
theorem dX9_quarter_79 : decode cX9_quarter 79 = .ok (.goto 5, 3) := by decide +kernel
theorem dX9_quarter_82 : decode cX9_quarter 82 = .ok (.iload 6, 2) := by decide +kernel
theorem dX9_quarter_84 : decode cX9_quarter 84 = .ok (.imul, 1) := by decide +kernel
theorem dX9_quarter_85 : decode cX9_quarter 85 = .ok (.lshl, 1) := by decide +kernel
theorem dX9_quarter_86 : decode cX9_quarter 86 = .ok (.lor, 1) := by decide +kernel
theorem dX9_quarter_87 : decode cX9_quarter 87 = .ok (.lstore 4, 2) := by decide +kernel
theorem dX9_quarter_89 : decode cX9_quarter 89 = .ok (.iinc 6 1, 3) := by decide +kernel
theorem dX9_quarter_92 : decode cX9_quarter 92 = .ok (.goto (-86), 3) := by decide +kernel
theorem dX9_quarter_95 : decode cX9_quarter 95 = .ok (.lload 4, 2) := by decide +kernel
theorem dX9_quarter_97 : decode cX9_quarter 97 = .ok (.lreturn, 1) := by decide +kernel
theorem dX9_quarters_0 : decode cX9_quarters 0 = .ok (.lload_n 1, 1) := by decide +kernel
theorem dX9_quarters_1 : decode cX9_quarters 1 = .ok (.lstore 6, 2) := by decide +kernel
theorem dX9_quarters_3 : decode cX9_quarters 3 = .ok (.iconst 0, 1) := by decide +kernel
theorem dX9_quarters_4 : decode cX9_quarters 4 = .ok (.istore 8, 2) := by decide +kernel
theorem dX9_quarters_6 : decode cX9_quarters 6 = .ok (.iload 8, 2) := by decide +kernel
theorem dX9_quarters_8 : decode cX9_quarters 8 = .ok (.iconst 4, 1) := by decide +kernel
theorem dX9_quarters_9 : decode cX9_quarters 9 = .ok (.if_icmp .ge 29, 3) := by decide +kernel
theorem dX9_quarters_12 : decode cX9_quarters 12 = .ok (.lload 6, 2) := by decide +kernel
theorem dX9_quarters_14 : decode cX9_quarters 14 = .ok (.lload_n 3, 1) := by decide +kernel
theorem dX9_quarters_15 : decode cX9_quarters 15 = .ok (.lcmp, 1) := by decide +kernel
theorem dX9_quarters_16 : decode cX9_quarters 16 = .ok (.ifCond .ne 6, 3) := by decide +kernel
theorem dX9_quarters_19 : decode cX9_quarters 19 = .ok (.iload 8, 2) := by decide +kernel
theorem dX9_quarters_21 : decode cX9_quarters 21 = .ok (.ireturn, 1) := by decide +kernel
theorem dX9_quarters_22 : decode cX9_quarters 22 = .ok (.aload_n 0, 1) := by decide +kernel
theorem dX9_quarters_23 : decode cX9_quarters 23 = .ok (.lload 6, 2) := by decide +kernel
theorem dX9_quarters_25 : decode cX9_quarters 25 = .ok (.iload 5, 2) := by decide +kernel
theorem dX9_quarters_27 : decode cX9_quarters 27 = .ok (.invokevirtual 277, 3) := by decide +kernel
theorem dX9_quarters_30 : decode cX9_quarters 30 = .ok (.lstore 6, 2) := by decide +kernel
theorem dX9_quarters_32 : decode cX9_quarters 32 = .ok (.iinc 8 1, 3) := by decide +kernel
theorem dX9_quarters_35 : decode cX9_quarters 35 = .ok (.goto (-29), 3) := by decide +kernel
theorem dX9_quarters_38 : decode cX9_quarters 38 = .ok (.bipush (-2), 2) := by decide +kernel
theorem dX9_quarters_40 : decode cX9_quarters 40 = .ok (.ireturn, 1) := by decide +kernel
theorem dX9_alike_0 : decode cX9_alike 0 = .ok (.iload_n 1, 1) := by decide +kernel
theorem dX9_alike_1 : decode cX9_alike 1 = .ok (.iconst 0, 1) := by decide +kernel
theorem dX9_alike_2 : decode cX9_alike 2 = .ok (.iconst 1, 1) := by decide +kernel
theorem dX9_alike_3 : decode cX9_alike 3 = .ok (.invokestatic 147, 3) := by decide +kernel
theorem dX9_alike_6 : decode cX9_alike 6 = .ok (.ifCond .ne 5, 3) := by decide +kernel
theorem dX9_alike_9 : decode cX9_alike 9 = .ok (.iconst (-1), 1) := by decide +kernel
theorem dX9_alike_10 : decode cX9_alike 10 = .ok (.ireturn, 1) := by decide +kernel
theorem dX9_alike_11 : decode cX9_alike 11 = .ok (.aload_n 0, 1) := by decide +kernel
theorem dX9_alike_12 : decode cX9_alike 12 = .ok (.getfield 105, 3) := by decide +kernel
theorem dX9_alike_15 : decode cX9_alike 15 = .ok (.ifCond .ge 8, 3) := by decide +kernel
theorem dX9_alike_18 : decode cX9_alike 18 = .ok (.bipush (-5), 2) := by decide +kernel
theorem dX9_alike_20 : decode cX9_alike 20 = .ok (.goto 34, 3) := by decide +kernel
theorem dX9_alike_23 : decode cX9_alike 23 = .ok (.aload_n 0, 1) := by decide +kernel
theorem dX9_alike_24 : decode cX9_alike 24 = .ok (.aload_n 0, 1) := by decide +kernel
theorem dX9_alike_25 : decode cX9_alike 25 = .ok (.getfield 93, 3) := by decide +kernel
theorem dX9_alike_28 : decode cX9_alike 28 = .ok (.aload_n 0, 1) := by decide +kernel
theorem dX9_alike_29 : decode cX9_alike 29 = .ok (.getfield 105, 3) := by decide +kernel
theorem dX9_alike_32 : decode cX9_alike 32 = .ok (.laload, 1) := by decide +kernel
theorem dX9_alike_33 : decode cX9_alike 33 = .ok (.aload_n 0, 1) := by decide +kernel
theorem dX9_alike_34 : decode cX9_alike 34 = .ok (.getfield 89, 3) := by decide +kernel
theorem dX9_alike_37 : decode cX9_alike 37 = .ok (.aload_n 0, 1) := by decide +kernel
theorem dX9_alike_38 : decode cX9_alike 38 = .ok (.getfield 144, 3) := by decide +kernel
theorem dX9_alike_41 : decode cX9_alike 41 = .ok (.laload, 1) := by decide +kernel
theorem dX9_alike_42 : decode cX9_alike 42 = .ok (.iload_n 1, 1) := by decide +kernel
theorem dX9_alike_43 : decode cX9_alike 43 = .ok (.ifCond .ne 7, 3) := by decide +kernel
theorem dX9_alike_46 : decode cX9_alike 46 = .ok (.iconst 1, 1) := by decide +kernel
theorem dX9_alike_47 : decode cX9_alike 47 = .ok (.goto 4, 3) := by decide +kernel
theorem dX9_alike_50 : decode cX9_alike 50 = .ok (.iconst 0, 1) := by decide +kernel
theorem dX9_alike_51 : decode cX9_alike 51 = .ok (.invokevirtual 281, 3) := by decide +kernel
theorem dX9_alike_54 : decode cX9_alike 54 = .ok (.ireturn, 1) := by decide +kernel
theorem dX9_squares_0 : decode cX9_squares 0 = .ok (.iload_n 1, 1) := by decide +kernel
theorem dX9_squares_1 : decode cX9_squares 1 = .ok (.iconst 0, 1) := by decide +kernel
theorem dX9_squares_2 : decode cX9_squares 2 = .ok (.iconst 2, 1) := by decide +kernel
theorem dX9_squares_3 : decode cX9_squares 3 = .ok (.invokestatic 147, 3) := by decide +kernel
theorem dX9_squares_6 : decode cX9_squares 6 = .ok (.ifCond .ne 5, 3) := by decide +kernel
theorem dX9_squares_9 : decode cX9_squares 9 = .ok (.iconst (-1), 1) := by decide +kernel
theorem dX9_squares_10 : decode cX9_squares 10 = .ok (.ireturn, 1) := by decide +kernel
theorem dX9_squares_11 : decode cX9_squares 11 = .ok (.iconst 0, 1) := by decide +kernel
theorem dX9_squares_12 : decode cX9_squares 12 = .ok (.istore_n 2, 1) := by decide +kernel
theorem dX9_squares_13 : decode cX9_squares 13 = .ok (.iconst 0, 1) := by decide +kernel
theorem dX9_squares_14 : decode cX9_squares 14 = .ok (.istore_n 3, 1) := by decide +kernel
theorem dX9_squares_15 : decode cX9_squares 15 = .ok (.iload_n 3, 1) := by decide +kernel
theorem dX9_squares_16 : decode cX9_squares 16 = .ok (.aload_n 0, 1) := by decide +kernel
theorem dX9_squares_17 : decode cX9_squares 17 = .ok (.getfield 144, 3) := by decide +kernel
theorem dX9_squares_20 : decode cX9_squares 20 = .ok (.if_icmp .gt 111, 3) := by decide +kernel
theorem dX9_squares_23 : decode cX9_squares 23 = .ok (.iconst 1, 1) := by decide +kernel
theorem dX9_squares_24 : decode cX9_squares 24 = .ok (.istore 4, 2) := by decide +kernel
theorem dX9_squares_26 : decode cX9_squares 26 = .ok (.iconst 0, 1) := by decide +kernel
theorem dX9_squares_27 : decode cX9_squares 27 = .ok (.istore 5, 2) := by decide +kernel
theorem dX9_squares_29 : decode cX9_squares 29 = .ok (.iload 5, 2) := by decide +kernel
theorem dX9_squares_31 : decode cX9_squares 31 = .ok (.iload_n 3, 1) := by decide +kernel
theorem dX9_squares_32 : decode cX9_squares 32 = .ok (.if_icmp .ge 80, 3) := by decide +kernel
theorem dX9_squares_35 : decode cX9_squares 35 = .ok (.iload 4, 2) := by decide +kernel
theorem dX9_squares_37 : decode cX9_squares 37 = .ok (.ifCond .eq 75, 3) := by decide +kernel
theorem dX9_squares_40 : decode cX9_squares 40 = .ok (.iload_n 1, 1) := by decide +kernel
theorem dX9_squares_41 : decode cX9_squares 41 = .ok (.ifCond .ne 28, 3) := by decide +kernel
theorem dX9_squares_44 : decode cX9_squares 44 = .ok (.aload_n 0, 1) := by decide +kernel
theorem dX9_squares_45 : decode cX9_squares 45 = .ok (.getfield 89, 3) := by decide +kernel
theorem dX9_squares_48 : decode cX9_squares 48 = .ok (.iload 5, 2) := by decide +kernel
theorem dX9_squares_50 : decode cX9_squares 50 = .ok (.laload, 1) := by decide +kernel
theorem dX9_squares_51 : decode cX9_squares 51 = .ok (.aload_n 0, 1) := by decide +kernel
theorem dX9_squares_52 : decode cX9_squares 52 = .ok (.getfield 89, 3) := by decide +kernel
theorem dX9_squares_55 : decode cX9_squares 55 = .ok (.iload_n 3, 1) := by decide +kernel
theorem dX9_squares_56 : decode cX9_squares 56 = .ok (.laload, 1) := by decide +kernel
theorem dX9_squares_57 : decode cX9_squares 57 = .ok (.lcmp, 1) := by decide +kernel
theorem dX9_squares_58 : decode cX9_squares 58 = .ok (.ifCond .eq 7, 3) := by decide +kernel
theorem dX9_squares_61 : decode cX9_squares 61 = .ok (.iconst 1, 1) := by decide +kernel
theorem dX9_squares_62 : decode cX9_squares 62 = .ok (.goto 42, 3) := by decide +kernel
theorem dX9_squares_65 : decode cX9_squares 65 = .ok (.iconst 0, 1) := by decide +kernel
theorem dX9_squares_66 : decode cX9_squares 66 = .ok (.goto 38, 3) := by decide +kernel
theorem dX9_squares_69 : decode cX9_squares 69 = .ok (.aload_n 0, 1) := by decide +kernel
theorem dX9_squares_70 : decode cX9_squares 70 = .ok (.aload_n 0, 1) := by decide +kernel
theorem dX9_squares_71 : decode cX9_squares 71 = .ok (.getfield 89, 3) := by decide +kernel
theorem dX9_squares_74 : decode cX9_squares 74 = .ok (.iload 5, 2) := by decide +kernel
theorem dX9_squares_76 : decode cX9_squares 76 = .ok (.laload, 1) := by decide +kernel
theorem dX9_squares_77 : decode cX9_squares 77 = .ok (.aload_n 0, 1) := by decide +kernel
theorem dX9_squares_78 : decode cX9_squares 78 = .ok (.getfield 89, 3) := by decide +kernel
theorem dX9_squares_81 : decode cX9_squares 81 = .ok (.iload_n 3, 1) := by decide +kernel
theorem dX9_squares_82 : decode cX9_squares 82 = .ok (.laload, 1) := by decide +kernel
theorem dX9_squares_83 : decode cX9_squares 83 = .ok (.iload_n 1, 1) := by decide +kernel
theorem dX9_squares_84 : decode cX9_squares 84 = .ok (.iconst 1, 1) := by decide +kernel
theorem dX9_squares_85 : decode cX9_squares 85 = .ok (.if_icmp .ne 7, 3) := by decide +kernel
theorem dX9_squares_88 : decode cX9_squares 88 = .ok (.iconst 1, 1) := by decide +kernel
theorem dX9_squares_89 : decode cX9_squares 89 = .ok (.goto 4, 3) := by decide +kernel
theorem dX9_squares_92 : decode cX9_squares 92 = .ok (.iconst 0, 1) := by decide +kernel
theorem dX9_squares_93 : decode cX9_squares 93 = .ok (.invokevirtual 281, 3) := by decide +kernel
theorem dX9_squares_96 : decode cX9_squares 96 = .ok (.ifCond .ge 7, 3) := by decide +kernel
theorem dX9_squares_99 : decode cX9_squares 99 = .ok (.iconst 1, 1) := by decide +kernel
theorem dX9_squares_100 : decode cX9_squares 100 = .ok (.goto 4, 3) := by decide +kernel
theorem dX9_squares_103 : decode cX9_squares 103 = .ok (.iconst 0, 1) := by decide +kernel
theorem dX9_squares_104 : decode cX9_squares 104 = .ok (.istore 4, 2) := by decide +kernel
theorem dX9_squares_106 : decode cX9_squares 106 = .ok (.iinc 5 1, 3) := by decide +kernel
theorem dX9_squares_109 : decode cX9_squares 109 = .ok (.goto (-80), 3) := by decide +kernel
theorem dX9_squares_112 : decode cX9_squares 112 = .ok (.iload_n 2, 1) := by decide +kernel
theorem dX9_squares_113 : decode cX9_squares 113 = .ok (.iload 4, 2) := by decide +kernel
theorem dX9_squares_115 : decode cX9_squares 115 = .ok (.ifCond .eq 7, 3) := by decide +kernel
theorem dX9_squares_118 : decode cX9_squares 118 = .ok (.iconst 1, 1) := by decide +kernel
theorem dX9_squares_119 : decode cX9_squares 119 = .ok (.goto 4, 3) := by decide +kernel
theorem dX9_squares_122 : decode cX9_squares 122 = .ok (.iconst 0, 1) := by decide +kernel
theorem dX9_squares_123 : decode cX9_squares 123 = .ok (.iadd, 1) := by decide +kernel
theorem dX9_squares_124 : decode cX9_squares 124 = .ok (.istore_n 2, 1) := by decide +kernel
theorem dX9_squares_125 : decode cX9_squares 125 = .ok (.iinc 3 1, 3) := by decide +kernel
theorem dX9_squares_128 : decode cX9_squares 128 = .ok (.goto (-113), 3) := by decide +kernel
theorem dX9_squares_131 : decode cX9_squares 131 = .ok (.iload_n 2, 1) := by decide +kernel
theorem dX9_squares_132 : decode cX9_squares 132 = .ok (.ireturn, 1) := by decide +kernel
theorem dX9_prints_0 : decode cX9_prints 0 = .ok (.aload_n 0, 1) := by decide +kernel
theorem dX9_prints_1 : decode cX9_prints 1 = .ok (.getfield 127, 3) := by decide +kernel
theorem dX9_prints_4 : decode cX9_prints 4 = .ok (.aload_n 0, 1) := by decide +kernel
theorem dX9_prints_5 : decode cX9_prints 5 = .ok (.getfield 285, 3) := by decide +kernel
theorem dX9_prints_8 : decode cX9_prints 8 = .ok (.iload_n 1, 1) := by decide +kernel
theorem dX9_prints_9 : decode cX9_prints 9 = .ok (.iastore, 1) := by decide +kernel
theorem dX9_prints_10 : decode cX9_prints 10 = .ok (.aload_n 0, 1) := by decide +kernel
theorem dX9_prints_11 : decode cX9_prints 11 = .ok (.dup, 1) := by decide +kernel
theorem dX9_prints_12 : decode cX9_prints 12 = .ok (.getfield 285, 3) := by decide +kernel
theorem dX9_prints_15 : decode cX9_prints 15 = .ok (.iconst 1, 1) := by decide +kernel
theorem dX9_prints_16 : decode cX9_prints 16 = .ok (.iadd, 1) := by decide +kernel
theorem dX9_prints_17 : decode cX9_prints 17 = .ok (.putfield 285, 3) := by decide +kernel
theorem dX9_prints_20 : decode cX9_prints 20 = .ok (.return_, 1) := by decide +kernel
theorem dX9_prints__0 : decode cX9_prints_ 0 = .ok (.iconst 0, 1) := by decide +kernel
theorem dX9_prints__1 : decode cX9_prints_ 1 = .ok (.istore_n 2, 1) := by decide +kernel
theorem dX9_prints__2 : decode cX9_prints_ 2 = .ok (.iload_n 2, 1) := by decide +kernel
theorem dX9_prints__3 : decode cX9_prints_ 3 = .ok (.aload_n 1, 1) := by decide +kernel
theorem dX9_prints__4 : decode cX9_prints_ 4 = .ok (.invokevirtual 211, 3) := by decide +kernel
theorem dX9_prints__7 : decode cX9_prints_ 7 = .ok (.if_icmp .ge 18, 3) := by decide +kernel
theorem dX9_prints__10 : decode cX9_prints_ 10 = .ok (.aload_n 0, 1) := by decide +kernel
theorem dX9_prints__11 : decode cX9_prints_ 11 = .ok (.aload_n 1, 1) := by decide +kernel
theorem dX9_prints__12 : decode cX9_prints_ 12 = .ok (.iload_n 2, 1) := by decide +kernel
theorem dX9_prints__13 : decode cX9_prints_ 13 = .ok (.invokevirtual 215, 3) := by decide +kernel
theorem dX9_prints__16 : decode cX9_prints_ 16 = .ok (.invokevirtual 288, 3) := by decide +kernel
theorem dX9_prints__19 : decode cX9_prints_ 19 = .ok (.iinc 2 1, 3) := by decide +kernel
theorem dX9_prints__22 : decode cX9_prints_ 22 = .ok (.goto (-20), 3) := by decide +kernel
theorem dX9_prints__25 : decode cX9_prints_ 25 = .ok (.return_, 1) := by decide +kernel
theorem dX9_text_0 : decode cX9_text 0 = .ok (.iload_n 1, 1) := by decide +kernel
theorem dX9_text_1 : decode cX9_text 1 = .ok (.iconst (-1), 1) := by decide +kernel
theorem dX9_text_2 : decode cX9_text 2 = .ok (.if_icmp .ge 5, 3) := by decide +kernel
theorem dX9_text_5 : decode cX9_text 5 = .ok (.iconst (-1), 1) := by decide +kernel
theorem dX9_text_6 : decode cX9_text 6 = .ok (.ireturn, 1) := by decide +kernel
theorem dX9_text_7 : decode cX9_text 7 = .ok (.aload_n 0, 1) := by decide +kernel
theorem dX9_text_8 : decode cX9_text 8 = .ok (.iconst 0, 1) := by decide +kernel
theorem dX9_text_9 : decode cX9_text 9 = .ok (.putfield 285, 3) := by decide +kernel
theorem dX9_text_12 : decode cX9_text 12 = .ok (.iconst 0, 1) := by decide +kernel
theorem dX9_text_13 : decode cX9_text 13 = .ok (.istore_n 2, 1) := by decide +kernel
theorem dX9_text_14 : decode cX9_text 14 = .ok (.iload_n 2, 1) := by decide +kernel
theorem dX9_text_15 : decode cX9_text 15 = .ok (.aload_n 0, 1) := by decide +kernel
theorem dX9_text_16 : decode cX9_text 16 = .ok (.getfield 144, 3) := by decide +kernel
theorem dX9_text_19 : decode cX9_text 19 = .ok (.if_icmp .ge 132, 3) := by decide +kernel
theorem dX9_text_22 : decode cX9_text 22 = .ok (.iconst 1, 1) := by decide +kernel
theorem dX9_text_23 : decode cX9_text 23 = .ok (.istore_n 3, 1) := by decide +kernel
theorem dX9_text_24 : decode cX9_text 24 = .ok (.iload_n 3, 1) := by decide +kernel
theorem dX9_text_25 : decode cX9_text 25 = .ok (.iconst 4, 1) := by decide +kernel
theorem dX9_text_26 : decode cX9_text 26 = .ok (.if_icmp .ge 36, 3) := by decide +kernel
theorem dX9_text_29 : decode cX9_text 29 = .ok (.iload_n 2, 1) := by decide +kernel
theorem dX9_text_30 : decode cX9_text 30 = .ok (.iload_n 3, 1) := by decide +kernel
theorem dX9_text_31 : decode cX9_text 31 = .ok (.iadd, 1) := by decide +kernel
theorem dX9_text_32 : decode cX9_text 32 = .ok (.aload_n 0, 1) := by decide +kernel
theorem dX9_text_33 : decode cX9_text 33 = .ok (.getfield 144, 3) := by decide +kernel
theorem dX9_text_36 : decode cX9_text 36 = .ok (.if_icmp .ge 26, 3) := by decide +kernel
theorem dX9_text_39 : decode cX9_text 39 = .ok (.aload_n 0, 1) := by decide +kernel
theorem dX9_text_40 : decode cX9_text 40 = .ok (.getfield 96, 3) := by decide +kernel
theorem dX9_text_43 : decode cX9_text 43 = .ok (.iload_n 2, 1) := by decide +kernel
theorem dX9_text_44 : decode cX9_text 44 = .ok (.iload_n 3, 1) := by decide +kernel
theorem dX9_text_45 : decode cX9_text 45 = .ok (.iadd, 1) := by decide +kernel
theorem dX9_text_46 : decode cX9_text 46 = .ok (.iaload, 1) := by decide +kernel
theorem dX9_text_47 : decode cX9_text 47 = .ok (.aload_n 0, 1) := by decide +kernel
theorem dX9_text_48 : decode cX9_text 48 = .ok (.getfield 96, 3) := by decide +kernel
theorem dX9_text_51 : decode cX9_text 51 = .ok (.iload_n 2, 1) := by decide +kernel
theorem dX9_text_52 : decode cX9_text 52 = .ok (.iaload, 1) := by decide +kernel
theorem dX9_text_53 : decode cX9_text 53 = .ok (.if_icmp .ne 9, 3) := by decide +kernel
theorem dX9_text_56 : decode cX9_text 56 = .ok (.iinc 3 1, 3) := by decide +kernel
theorem dX9_text_59 : decode cX9_text 59 = .ok (.goto (-35), 3) := by decide +kernel
theorem dX9_text_62 : decode cX9_text 62 = .ok (.iload_n 2, 1) := by decide +kernel
theorem dX9_text_63 : decode cX9_text 63 = .ok (.ifCond .le 9, 3) := by decide +kernel
theorem dX9_text_66 : decode cX9_text 66 = .ok (.aload_n 0, 1) := by decide +kernel
theorem dX9_text_67 : decode cX9_text 67 = .ok (.bipush 44, 2) := by decide +kernel
theorem dX9_text_69 : decode cX9_text 69 = .ok (.invokevirtual 288, 3) := by decide +kernel
theorem dX9_text_72 : decode cX9_text 72 = .ok (.aload_n 0, 1) := by decide +kernel
theorem dX9_text_73 : decode cX9_text 73 = .ok (.getfield 96, 3) := by decide +kernel
theorem dX9_text_76 : decode cX9_text 76 = .ok (.iload_n 2, 1) := by decide +kernel
theorem dX9_text_77 : decode cX9_text 77 = .ok (.iaload, 1) := by decide +kernel
theorem dX9_text_78 : decode cX9_text 78 = .ok (.bipush 100, 2) := by decide +kernel
theorem dX9_text_80 : decode cX9_text 80 = .ok (.if_icmp .lt 27, 3) := by decide +kernel
theorem dX9_text_83 : decode cX9_text 83 = .ok (.aload_n 0, 1) := by decide +kernel
theorem dX9_text_84 : decode cX9_text 84 = .ok (.aload_n 0, 1) := by decide +kernel
theorem dX9_text_85 : decode cX9_text 85 = .ok (.getfield 27, 3) := by decide +kernel
theorem dX9_text_88 : decode cX9_text 88 = .ok (.aload_n 0, 1) := by decide +kernel
theorem dX9_text_89 : decode cX9_text 89 = .ok (.getfield 96, 3) := by decide +kernel
theorem dX9_text_92 : decode cX9_text 92 = .ok (.iload_n 2, 1) := by decide +kernel
theorem dX9_text_93 : decode cX9_text 93 = .ok (.iaload, 1) := by decide +kernel
theorem dX9_text_94 : decode cX9_text 94 = .ok (.bipush 100, 2) := by decide +kernel
theorem dX9_text_96 : decode cX9_text 96 = .ok (.idiv, 1) := by decide +kernel
theorem dX9_text_97 : decode cX9_text 97 = .ok (.aaload, 1) := by decide +kernel
theorem dX9_text_98 : decode cX9_text 98 = .ok (.invokevirtual 291, 3) := by decide +kernel
theorem dX9_text_101 : decode cX9_text 101 = .ok (.aload_n 0, 1) := by decide +kernel
theorem dX9_text_102 : decode cX9_text 102 = .ok (.bipush 32, 2) := by decide +kernel
theorem dX9_text_104 : decode cX9_text 104 = .ok (.invokevirtual 288, 3) := by decide +kernel
theorem dX9_text_107 : decode cX9_text 107 = .ok (.aload_n 0, 1) := by decide +kernel
theorem dX9_text_108 : decode cX9_text 108 = .ok (.aload_n 0, 1) := by decide +kernel
theorem dX9_text_109 : decode cX9_text 109 = .ok (.getfield 57, 3) := by decide +kernel
theorem dX9_text_112 : decode cX9_text 112 = .ok (.aload_n 0, 1) := by decide +kernel
theorem dX9_text_113 : decode cX9_text 113 = .ok (.getfield 96, 3) := by decide +kernel
theorem dX9_text_116 : decode cX9_text 116 = .ok (.iload_n 2, 1) := by decide +kernel
theorem dX9_text_117 : decode cX9_text 117 = .ok (.iaload, 1) := by decide +kernel
theorem dX9_text_118 : decode cX9_text 118 = .ok (.bipush 100, 2) := by decide +kernel
theorem dX9_text_120 : decode cX9_text 120 = .ok (.irem, 1) := by decide +kernel
theorem dX9_text_121 : decode cX9_text 121 = .ok (.aaload, 1) := by decide +kernel
theorem dX9_text_122 : decode cX9_text 122 = .ok (.invokevirtual 291, 3) := by decide +kernel
theorem dX9_text_125 : decode cX9_text 125 = .ok (.iload_n 3, 1) := by decide +kernel
theorem dX9_text_126 : decode cX9_text 126 = .ok (.iconst 1, 1) := by decide +kernel
theorem dX9_text_127 : decode cX9_text 127 = .ok (.if_icmp .le 17, 3) := by decide +kernel
theorem dX9_text_130 : decode cX9_text 130 = .ok (.aload_n 0, 1) := by decide +kernel
theorem dX9_text_131 : decode cX9_text 131 = .ok (.bipush 32, 2) := by decide +kernel
theorem dX9_text_133 : decode cX9_text 133 = .ok (.invokevirtual 288, 3) := by decide +kernel
theorem dX9_text_136 : decode cX9_text 136 = .ok (.aload_n 0, 1) := by decide +kernel
theorem dX9_text_137 : decode cX9_text 137 = .ok (.bipush 48, 2) := by decide +kernel
theorem dX9_text_139 : decode cX9_text 139 = .ok (.iload_n 3, 1) := by decide +kernel
theorem dX9_text_140 : decode cX9_text 140 = .ok (.iadd, 1) := by decide +kernel
theorem dX9_text_141 : decode cX9_text 141 = .ok (.invokevirtual 288, 3) := by decide +kernel
theorem dX9_text_144 : decode cX9_text 144 = .ok (.iload_n 2, 1) := by decide +kernel
theorem dX9_text_145 : decode cX9_text 145 = .ok (.iload_n 3, 1) := by decide +kernel
theorem dX9_text_146 : decode cX9_text 146 = .ok (.iadd, 1) := by decide +kernel
theorem dX9_text_147 : decode cX9_text 147 = .ok (.istore_n 2, 1) := by decide +kernel
theorem dX9_text_148 : decode cX9_text 148 = .ok (.goto (-134), 3) := by decide +kernel
theorem dX9_text_151 : decode cX9_text 151 = .ok (.iload_n 1, 1) := by decide +kernel
theorem dX9_text_152 : decode cX9_text 152 = .ok (.ifCond .ge 10, 3) := by decide +kernel
theorem dX9_text_155 : decode cX9_text 155 = .ok (.aload_n 0, 1) := by decide +kernel
theorem dX9_text_156 : decode cX9_text 156 = .ok (.getfield 285, 3) := by decide +kernel
theorem dX9_text_159 : decode cX9_text 159 = .ok (.goto 22, 3) := by decide +kernel
theorem dX9_text_162 : decode cX9_text 162 = .ok (.iload_n 1, 1) := by decide +kernel
theorem dX9_text_163 : decode cX9_text 163 = .ok (.aload_n 0, 1) := by decide +kernel
theorem dX9_text_164 : decode cX9_text 164 = .ok (.getfield 285, 3) := by decide +kernel
theorem dX9_text_167 : decode cX9_text 167 = .ok (.if_icmp .ge 12, 3) := by decide +kernel
theorem dX9_text_170 : decode cX9_text 170 = .ok (.aload_n 0, 1) := by decide +kernel
theorem dX9_text_171 : decode cX9_text 171 = .ok (.getfield 127, 3) := by decide +kernel
theorem dX9_text_174 : decode cX9_text 174 = .ok (.iload_n 1, 1) := by decide +kernel
theorem dX9_text_175 : decode cX9_text 175 = .ok (.iaload, 1) := by decide +kernel
theorem dX9_text_176 : decode cX9_text 176 = .ok (.goto 5, 3) := by decide +kernel
theorem dX9_text_179 : decode cX9_text 179 = .ok (.bipush (-2), 2) := by decide +kernel
theorem dX9_text_181 : decode cX9_text 181 = .ok (.ireturn, 1) := by decide +kernel
theorem dX9_picture_0 : decode cX9_picture 0 = .ok (.iload_n 1, 1) := by decide +kernel
theorem dX9_picture_1 : decode cX9_picture 1 = .ok (.iconst (-1), 1) := by decide +kernel
theorem dX9_picture_2 : decode cX9_picture 2 = .ok (.if_icmp .ge 5, 3) := by decide +kernel
theorem dX9_picture_5 : decode cX9_picture 5 = .ok (.iconst (-1), 1) := by decide +kernel
theorem dX9_picture_6 : decode cX9_picture 6 = .ok (.ireturn, 1) := by decide +kernel
theorem dX9_picture_7 : decode cX9_picture 7 = .ok (.iload_n 1, 1) := by decide +kernel
theorem dX9_picture_8 : decode cX9_picture 8 = .ok (.ifCond .ge 6, 3) := by decide +kernel
theorem dX9_picture_11 : decode cX9_picture 11 = .ok (.bipush 36, 2) := by decide +kernel
theorem dX9_picture_13 : decode cX9_picture 13 = .ok (.ireturn, 1) := by decide +kernel
theorem dX9_picture_14 : decode cX9_picture 14 = .ok (.iload_n 1, 1) := by decide +kernel
theorem dX9_picture_15 : decode cX9_picture 15 = .ok (.bipush 36, 2) := by decide +kernel
theorem dX9_picture_17 : decode cX9_picture 17 = .ok (.if_icmp .lt 6, 3) := by decide +kernel
theorem dX9_picture_20 : decode cX9_picture 20 = .ok (.bipush (-2), 2) := by decide +kernel
theorem dX9_picture_22 : decode cX9_picture 22 = .ok (.ireturn, 1) := by decide +kernel
theorem dX9_picture_23 : decode cX9_picture 23 = .ok (.iload_n 1, 1) := by decide +kernel
theorem dX9_picture_24 : decode cX9_picture 24 = .ok (.bipush 9, 2) := by decide +kernel
theorem dX9_picture_26 : decode cX9_picture 26 = .ok (.irem, 1) := by decide +kernel
theorem dX9_picture_27 : decode cX9_picture 27 = .ok (.bipush 8, 2) := by decide +kernel
theorem dX9_picture_29 : decode cX9_picture 29 = .ok (.if_icmp .ne 6, 3) := by decide +kernel
theorem dX9_picture_32 : decode cX9_picture 32 = .ok (.bipush 10, 2) := by decide +kernel
theorem dX9_picture_34 : decode cX9_picture 34 = .ok (.ireturn, 1) := by decide +kernel
theorem dX9_picture_35 : decode cX9_picture 35 = .ok (.aload_n 0, 1) := by decide +kernel
theorem dX9_picture_36 : decode cX9_picture 36 = .ok (.invokevirtual 255, 3) := by decide +kernel
theorem dX9_picture_39 : decode cX9_picture 39 = .ok (.aload_n 0, 1) := by decide +kernel
theorem dX9_picture_40 : decode cX9_picture 40 = .ok (.getfield 67, 3) := by decide +kernel
theorem dX9_picture_43 : decode cX9_picture 43 = .ok (.iconst 4, 1) := by decide +kernel
theorem dX9_picture_44 : decode cX9_picture 44 = .ok (.iconst 3, 1) := by decide +kernel
theorem dX9_picture_45 : decode cX9_picture 45 = .ok (.iload_n 1, 1) := by decide +kernel
theorem dX9_picture_46 : decode cX9_picture 46 = .ok (.bipush 9, 2) := by decide +kernel
theorem dX9_picture_48 : decode cX9_picture 48 = .ok (.idiv, 1) := by decide +kernel
theorem dX9_picture_49 : decode cX9_picture 49 = .ok (.isub, 1) := by decide +kernel
theorem dX9_picture_50 : decode cX9_picture 50 = .ok (.imul, 1) := by decide +kernel
theorem dX9_picture_51 : decode cX9_picture 51 = .ok (.iload_n 1, 1) := by decide +kernel
theorem dX9_picture_52 : decode cX9_picture 52 = .ok (.bipush 9, 2) := by decide +kernel
theorem dX9_picture_54 : decode cX9_picture 54 = .ok (.irem, 1) := by decide +kernel
theorem dX9_picture_55 : decode cX9_picture 55 = .ok (.iconst 2, 1) := by decide +kernel
theorem dX9_picture_56 : decode cX9_picture 56 = .ok (.idiv, 1) := by decide +kernel
theorem dX9_picture_57 : decode cX9_picture 57 = .ok (.iadd, 1) := by decide +kernel
theorem dX9_picture_58 : decode cX9_picture 58 = .ok (.iaload, 1) := by decide +kernel
theorem dX9_picture_59 : decode cX9_picture 59 = .ok (.istore_n 2, 1) := by decide +kernel
theorem dX9_picture_60 : decode cX9_picture 60 = .ok (.iload_n 2, 1) := by decide +kernel
theorem dX9_picture_61 : decode cX9_picture 61 = .ok (.ifCond .ge 6, 3) := by decide +kernel
theorem dX9_picture_64 : decode cX9_picture 64 = .ok (.bipush 46, 2) := by decide +kernel
theorem dX9_picture_66 : decode cX9_picture 66 = .ok (.ireturn, 1) := by decide +kernel
theorem dX9_picture_67 : decode cX9_picture 67 = .ok (.iload_n 1, 1) := by decide +kernel
theorem dX9_picture_68 : decode cX9_picture 68 = .ok (.bipush 9, 2) := by decide +kernel
theorem dX9_picture_70 : decode cX9_picture 70 = .ok (.irem, 1) := by decide +kernel
theorem dX9_picture_71 : decode cX9_picture 71 = .ok (.iconst 2, 1) := by decide +kernel
theorem dX9_picture_72 : decode cX9_picture 72 = .ok (.irem, 1) := by decide +kernel
theorem dX9_picture_73 : decode cX9_picture 73 = .ok (.ifCond .ne 10, 3) := by decide +kernel
theorem dX9_picture_76 : decode cX9_picture 76 = .ok (.bipush 49, 2) := by decide +kernel
theorem dX9_picture_78 : decode cX9_picture 78 = .ok (.iload_n 2, 1) := by decide +kernel
theorem dX9_picture_79 : decode cX9_picture 79 = .ok (.iadd, 1) := by decide +kernel
theorem dX9_picture_80 : decode cX9_picture 80 = .ok (.goto 15, 3) := by decide +kernel
theorem dX9_picture_83 : decode cX9_picture 83 = .ok (.ldc_w 294, 3) := by decide +kernel
theorem dX9_picture_86 : decode cX9_picture 86 = .ok (.aload_n 0, 1) := by decide +kernel
theorem dX9_picture_87 : decode cX9_picture 87 = .ok (.getfield 64, 3) := by decide +kernel
theorem dX9_picture_90 : decode cX9_picture 90 = .ok (.iload_n 2, 1) := by decide +kernel
theorem dX9_picture_91 : decode cX9_picture 91 = .ok (.iaload, 1) := by decide +kernel
theorem dX9_picture_92 : decode cX9_picture 92 = .ok (.invokevirtual 215, 3) := by decide +kernel
theorem dX9_picture_95 : decode cX9_picture 95 = .ok (.ireturn, 1) := by decide +kernel
theorem dX9_call_0 : decode cX9_call 0 = .ok (.iload_n 1, 1) := by decide +kernel
theorem dX9_call_1 : decode cX9_call 1 = .ok (.iconst (-1), 1) := by decide +kernel
theorem dX9_call_2 : decode cX9_call 2 = .ok (.if_icmp .ge 7, 3) := by decide +kernel
theorem dX9_call_5 : decode cX9_call 5 = .ok (.iconst (-1), 1) := by decide +kernel
theorem dX9_call_6 : decode cX9_call 6 = .ok (.goto 33, 3) := by decide +kernel
theorem dX9_call_9 : decode cX9_call 9 = .ok (.iload_n 1, 1) := by decide +kernel
theorem dX9_call_10 : decode cX9_call 10 = .ok (.ifCond .ge 10, 3) := by decide +kernel
theorem dX9_call_13 : decode cX9_call 13 = .ok (.aload_n 0, 1) := by decide +kernel
theorem dX9_call_14 : decode cX9_call 14 = .ok (.getfield 144, 3) := by decide +kernel
theorem dX9_call_17 : decode cX9_call 17 = .ok (.goto 22, 3) := by decide +kernel
theorem dX9_call_20 : decode cX9_call 20 = .ok (.iload_n 1, 1) := by decide +kernel
theorem dX9_call_21 : decode cX9_call 21 = .ok (.aload_n 0, 1) := by decide +kernel
theorem dX9_call_22 : decode cX9_call 22 = .ok (.getfield 144, 3) := by decide +kernel
theorem dX9_call_25 : decode cX9_call 25 = .ok (.if_icmp .ge 12, 3) := by decide +kernel
theorem dX9_call_28 : decode cX9_call 28 = .ok (.aload_n 0, 1) := by decide +kernel
theorem dX9_call_29 : decode cX9_call 29 = .ok (.getfield 96, 3) := by decide +kernel
theorem dX9_call_32 : decode cX9_call 32 = .ok (.iload_n 1, 1) := by decide +kernel
theorem dX9_call_33 : decode cX9_call 33 = .ok (.iaload, 1) := by decide +kernel
theorem dX9_call_34 : decode cX9_call 34 = .ok (.goto 5, 3) := by decide +kernel
theorem dX9_call_37 : decode cX9_call 37 = .ok (.bipush (-2), 2) := by decide +kernel
theorem dX9_call_39 : decode cX9_call 39 = .ok (.ireturn, 1) := by decide +kernel
theorem dX9_danced_0 : decode cX9_danced 0 = .ok (.iload_n 1, 1) := by decide +kernel
theorem dX9_danced_1 : decode cX9_danced 1 = .ok (.iconst 0, 1) := by decide +kernel
theorem dX9_danced_2 : decode cX9_danced 2 = .ok (.bipush 11, 2) := by decide +kernel
theorem dX9_danced_4 : decode cX9_danced 4 = .ok (.invokestatic 147, 3) := by decide +kernel
theorem dX9_danced_7 : decode cX9_danced 7 = .ok (.ifCond .eq 12, 3) := by decide +kernel
theorem dX9_danced_10 : decode cX9_danced 10 = .ok (.aload_n 0, 1) := by decide +kernel
theorem dX9_danced_11 : decode cX9_danced 11 = .ok (.getfield 102, 3) := by decide +kernel
theorem dX9_danced_14 : decode cX9_danced 14 = .ok (.iload_n 1, 1) := by decide +kernel
theorem dX9_danced_15 : decode cX9_danced 15 = .ok (.iaload, 1) := by decide +kernel
theorem dX9_danced_16 : decode cX9_danced 16 = .ok (.goto 4, 3) := by decide +kernel
theorem dX9_danced_19 : decode cX9_danced 19 = .ok (.iconst (-1), 1) := by decide +kernel
theorem dX9_danced_20 : decode cX9_danced 20 = .ok (.ireturn, 1) := by decide +kernel
theorem dX9_image_0 : decode cX9_image 0 = .ok (.iconst 0, 1) := by decide +kernel
theorem dX9_image_1 : decode cX9_image 1 = .ok (.istore_n 1, 1) := by decide +kernel
theorem dX9_image_2 : decode cX9_image 2 = .ok (.iload_n 1, 1) := by decide +kernel
theorem dX9_image_3 : decode cX9_image 3 = .ok (.aload_n 0, 1) := by decide +kernel
theorem dX9_image_4 : decode cX9_image 4 = .ok (.getfield 144, 3) := by decide +kernel
theorem dX9_image_7 : decode cX9_image 7 = .ok (.if_icmp .gt 21, 3) := by decide +kernel
theorem dX9_image_10 : decode cX9_image 10 = .ok (.aload_n 0, 1) := by decide +kernel
theorem dX9_image_11 : decode cX9_image 11 = .ok (.getfield 93, 3) := by decide +kernel
theorem dX9_image_14 : decode cX9_image 14 = .ok (.iload_n 1, 1) := by decide +kernel
theorem dX9_image_15 : decode cX9_image 15 = .ok (.aload_n 0, 1) := by decide +kernel
theorem dX9_image_16 : decode cX9_image 16 = .ok (.getfield 89, 3) := by decide +kernel
theorem dX9_image_19 : decode cX9_image 19 = .ok (.iload_n 1, 1) := by decide +kernel
theorem dX9_image_20 : decode cX9_image 20 = .ok (.laload, 1) := by decide +kernel
theorem dX9_image_21 : decode cX9_image 21 = .ok (.lastore, 1) := by decide +kernel
theorem dX9_image_22 : decode cX9_image 22 = .ok (.iinc 1 1, 3) := by decide +kernel
theorem dX9_image_25 : decode cX9_image 25 = .ok (.goto (-23), 3) := by decide +kernel
theorem dX9_image_28 : decode cX9_image 28 = .ok (.iconst 0, 1) := by decide +kernel
theorem dX9_image_29 : decode cX9_image 29 = .ok (.istore_n 1, 1) := by decide +kernel
theorem dX9_image_30 : decode cX9_image 30 = .ok (.iload_n 1, 1) := by decide +kernel
theorem dX9_image_31 : decode cX9_image 31 = .ok (.aload_n 0, 1) := by decide +kernel
theorem dX9_image_32 : decode cX9_image 32 = .ok (.getfield 144, 3) := by decide +kernel
theorem dX9_image_35 : decode cX9_image 35 = .ok (.if_icmp .ge 21, 3) := by decide +kernel
theorem dX9_image_38 : decode cX9_image 38 = .ok (.aload_n 0, 1) := by decide +kernel
theorem dX9_image_39 : decode cX9_image 39 = .ok (.getfield 99, 3) := by decide +kernel
theorem dX9_image_42 : decode cX9_image 42 = .ok (.iload_n 1, 1) := by decide +kernel
theorem dX9_image_43 : decode cX9_image 43 = .ok (.aload_n 0, 1) := by decide +kernel
theorem dX9_image_44 : decode cX9_image 44 = .ok (.getfield 96, 3) := by decide +kernel
theorem dX9_image_47 : decode cX9_image 47 = .ok (.iload_n 1, 1) := by decide +kernel
theorem dX9_image_48 : decode cX9_image 48 = .ok (.iaload, 1) := by decide +kernel
theorem dX9_image_49 : decode cX9_image 49 = .ok (.iastore, 1) := by decide +kernel
theorem dX9_image_50 : decode cX9_image 50 = .ok (.iinc 1 1, 3) := by decide +kernel
theorem dX9_image_53 : decode cX9_image 53 = .ok (.goto (-23), 3) := by decide +kernel
theorem dX9_image_56 : decode cX9_image 56 = .ok (.aload_n 0, 1) := by decide +kernel
theorem dX9_image_57 : decode cX9_image 57 = .ok (.aload_n 0, 1) := by decide +kernel
theorem dX9_image_58 : decode cX9_image 58 = .ok (.getfield 144, 3) := by decide +kernel
theorem dX9_image_61 : decode cX9_image 61 = .ok (.putfield 105, 3) := by decide +kernel
theorem dX9_image_64 : decode cX9_image 64 = .ok (.aload_n 0, 1) := by decide +kernel
theorem dX9_image_65 : decode cX9_image 65 = .ok (.getfield 144, 3) := by decide +kernel
theorem dX9_image_68 : decode cX9_image 68 = .ok (.ireturn, 1) := by decide +kernel
theorem dX9_back_0 : decode cX9_back 0 = .ok (.aload_n 0, 1) := by decide +kernel
theorem dX9_back_1 : decode cX9_back 1 = .ok (.getfield 105, 3) := by decide +kernel
theorem dX9_back_4 : decode cX9_back 4 = .ok (.ifCond .ge 6, 3) := by decide +kernel
theorem dX9_back_7 : decode cX9_back 7 = .ok (.bipush (-5), 2) := by decide +kernel
theorem dX9_back_9 : decode cX9_back 9 = .ok (.ireturn, 1) := by decide +kernel
theorem dX9_back_10 : decode cX9_back 10 = .ok (.aload_n 0, 1) := by decide +kernel
theorem dX9_back_11 : decode cX9_back 11 = .ok (.aload_n 0, 1) := by decide +kernel
theorem dX9_back_12 : decode cX9_back 12 = .ok (.getfield 105, 3) := by decide +kernel
theorem dX9_back_15 : decode cX9_back 15 = .ok (.putfield 144, 3) := by decide +kernel
theorem dX9_back_18 : decode cX9_back 18 = .ok (.aload_n 0, 1) := by decide +kernel
theorem dX9_back_19 : decode cX9_back 19 = .ok (.iconst 0, 1) := by decide +kernel
theorem dX9_back_20 : decode cX9_back 20 = .ok (.putfield 252, 3) := by decide +kernel
theorem dX9_back_23 : decode cX9_back 23 = .ok (.iconst 0, 1) := by decide +kernel
theorem dX9_back_24 : decode cX9_back 24 = .ok (.istore_n 1, 1) := by decide +kernel
theorem dX9_back_25 : decode cX9_back 25 = .ok (.iload_n 1, 1) := by decide +kernel
theorem dX9_back_26 : decode cX9_back 26 = .ok (.aload_n 0, 1) := by decide +kernel
theorem dX9_back_27 : decode cX9_back 27 = .ok (.getfield 144, 3) := by decide +kernel
theorem dX9_back_30 : decode cX9_back 30 = .ok (.if_icmp .gt 21, 3) := by decide +kernel
theorem dX9_back_33 : decode cX9_back 33 = .ok (.aload_n 0, 1) := by decide +kernel
theorem dX9_back_34 : decode cX9_back 34 = .ok (.getfield 89, 3) := by decide +kernel
theorem dX9_back_37 : decode cX9_back 37 = .ok (.iload_n 1, 1) := by decide +kernel
theorem dX9_back_38 : decode cX9_back 38 = .ok (.aload_n 0, 1) := by decide +kernel
theorem dX9_back_39 : decode cX9_back 39 = .ok (.getfield 93, 3) := by decide +kernel
theorem dX9_back_42 : decode cX9_back 42 = .ok (.iload_n 1, 1) := by decide +kernel
theorem dX9_back_43 : decode cX9_back 43 = .ok (.laload, 1) := by decide +kernel
theorem dX9_back_44 : decode cX9_back 44 = .ok (.lastore, 1) := by decide +kernel
theorem dX9_back_45 : decode cX9_back 45 = .ok (.iinc 1 1, 3) := by decide +kernel
theorem dX9_back_48 : decode cX9_back 48 = .ok (.goto (-23), 3) := by decide +kernel
theorem dX9_back_51 : decode cX9_back 51 = .ok (.iconst 0, 1) := by decide +kernel
theorem dX9_back_52 : decode cX9_back 52 = .ok (.istore_n 1, 1) := by decide +kernel
theorem dX9_back_53 : decode cX9_back 53 = .ok (.iload_n 1, 1) := by decide +kernel
theorem dX9_back_54 : decode cX9_back 54 = .ok (.aload_n 0, 1) := by decide +kernel
theorem dX9_back_55 : decode cX9_back 55 = .ok (.getfield 144, 3) := by decide +kernel
theorem dX9_back_58 : decode cX9_back 58 = .ok (.if_icmp .ge 21, 3) := by decide +kernel
theorem dX9_back_61 : decode cX9_back 61 = .ok (.aload_n 0, 1) := by decide +kernel
theorem dX9_back_62 : decode cX9_back 62 = .ok (.getfield 96, 3) := by decide +kernel
theorem dX9_back_65 : decode cX9_back 65 = .ok (.iload_n 1, 1) := by decide +kernel
theorem dX9_back_66 : decode cX9_back 66 = .ok (.aload_n 0, 1) := by decide +kernel
theorem dX9_back_67 : decode cX9_back 67 = .ok (.getfield 99, 3) := by decide +kernel
theorem dX9_back_70 : decode cX9_back 70 = .ok (.iload_n 1, 1) := by decide +kernel
theorem dX9_back_71 : decode cX9_back 71 = .ok (.iaload, 1) := by decide +kernel
theorem dX9_back_72 : decode cX9_back 72 = .ok (.iastore, 1) := by decide +kernel
theorem dX9_back_73 : decode cX9_back 73 = .ok (.iinc 1 1, 3) := by decide +kernel
theorem dX9_back_76 : decode cX9_back 76 = .ok (.goto (-23), 3) := by decide +kernel
theorem dX9_back_79 : decode cX9_back 79 = .ok (.aload_n 0, 1) := by decide +kernel
theorem dX9_back_80 : decode cX9_back 80 = .ok (.getfield 144, 3) := by decide +kernel
theorem dX9_back_83 : decode cX9_back 83 = .ok (.ireturn, 1) := by decide +kernel
end
section
/-! ===== the abstract machine: places instead of addresses; the class's cells are places 0 .., the reference's 100 ..; constant arrays 1000 .., texts 2000 .., their bytes 3000 .. ===== -/
abbrev AE : Type := (Nat × vp_A) ⊕ (Nat × List Value)
abbrev WD : Type := List AE × List AE
def cv (ad : Nat → Nat) (v : Value) : Value := match v with
  | .ref p => .ref (ad p)
  | .int x => .int x
  | .long x => .long x
  | .float x => .float x
  | .double x => .double x
  | .null => .null
  | .retAddr x => .retAddr x
theorem cv_cat (ad : Nat → Nat) (v : Value) : (cv ad v).category = v.category := by cases v <;> rfl
def ca (ad : Nat → Nat) (a : vp_A) : vp_A := (a.1, match a.2 with
  | .inl f => .inl f
  | .inr (.inl f) => .inr (.inl f)
  | .inr (.inr (.inl f)) => .inr (.inr (.inl f))
  | .inr (.inr (.inr (.inl f))) => .inr (.inr (.inr (.inl f)))
  | .inr (.inr (.inr (.inr f))) => .inr (.inr (.inr (.inr (fun j => (f j).map ad)))))
def ce (ad : Nat → Nat) (cA : Nat → ClassId) (e : AE) : va_E := match e with
  | .inl x => .inl (cA x.1, ca ad x.2)
  | .inr o => .inr (o.1, o.2.map (cv ad))
def cwl (ad : Nat → Nat) (cA : Nat → ClassId) : Nat → List AE → va_W
  | _, [] => []
  | i, e :: l => (ad i, ce ad cA e) :: cwl ad cA (i + 1) l
theorem cwl_len (ad : Nat → Nat) (cA : Nat → ClassId) : ∀ (l : List AE) (i : Nat), (cwl ad cA i l).length = l.length
  | [], _ => rfl
  | _ :: l, i => congrArg (· + 1) (cwl_len ad cA l (i + 1))
theorem cwl_get (ad : Nat → Nat) (cA : Nat → ClassId) : ∀ (l : List AE) (i k : Nat), (cwl ad cA i l)[k]? = (l[k]?).map (fun e => (ad (i + k), ce ad cA e))
  | [], i, k => by simp [cwl]
  | e :: l, i, 0 => by simp [cwl]
  | e :: l, i, k + 1 => by
    have h := cwl_get ad cA l (i + 1) k
    simp only [cwl, List.getElem?_cons_succ, h]
    rw [show i + 1 + k = i + (k + 1) by omega]
theorem cwl_set (ad : Nat → Nat) (cA : Nat → ClassId) (e : AE) : ∀ (l : List AE) (i k : Nat), (cwl ad cA i l).set k (ad (i + k), ce ad cA e) = cwl ad cA i (l.set k e)
  | [], i, k => by simp [cwl]
  | e0 :: l, i, 0 => by simp [cwl]
  | e0 :: l, i, k + 1 => by
    have h := cwl_set ad cA e l (i + 1) k
    simp only [cwl, List.set_cons_succ]
    rw [← h, show i + 1 + k = i + (k + 1) by omega]
theorem cwl_app (ad : Nat → Nat) (cA : Nat → ClassId) : ∀ (l l2 : List AE) (i : Nat), cwl ad cA i (l ++ l2) = cwl ad cA i l ++ cwl ad cA (i + l.length) l2
  | [], l2, i => by simp [cwl]
  | e :: l, l2, i => by
    simp only [List.cons_append, cwl, cwl_app ad cA l l2 (i + 1), List.length_cons]
    rw [show i + 1 + l.length = i + (l.length + 1) by omega]
def cw (ad : Nat → Nat) (cA : Nat → ClassId) (w : WD) : va_W := cwl ad cA 0 w.1 ++ cwl ad cA 100 w.2
def wg (w : WD) (p : Nat) : Option AE := match Nat.blt p 100 with
  | true => w.1[p]?
  | false => w.2[p - 100]?
def wput (w : WD) (p : Nat) (e : AE) : WD := match Nat.blt p 100 with
  | true => (w.1.set p e, w.2)
  | false => (w.1, w.2.set (p - 100) e)
theorem cw_at {ad : Nat → Nat} {cA : Nat → ClassId} {w : WD} {p : Nat} {e : AE} (h : wg w p = some e) : ∃ k : Nat, (cw ad cA w)[k]? = some (ad p, ce ad cA e) ∧ ∀ e', (cw ad cA w).set k (ad p, ce ad cA e') = cw ad cA (wput w p e') := by
  unfold wg at h
  cases hb : Nat.blt p 100 with
  | true =>
    rw [hb] at h
    dsimp only at h
    have hl : p < w.1.length := (List.getElem?_eq_some_iff.mp h).1
    refine ⟨p, ?_, fun e' => ?_⟩
    · unfold cw
      rw [List.getElem?_append_left (by rw [cwl_len]; exact hl), cwl_get, h]
      simp
    · unfold cw wput
      rw [hb, List.set_append_left _ _ (by rw [cwl_len]; exact hl)]
      have := cwl_set ad cA e' w.1 0 p
      rw [Nat.zero_add] at this
      rw [this]
  | false =>
    rw [hb] at h
    dsimp only at h
    have hge : 100 ≤ p := Nat.not_lt.mp (fun q => by
      have h1 : Nat.ble (p + 1) 100 = true := Nat.ble_eq_true_of_le q
      have h2 : Nat.ble (p + 1) 100 = false := hb
      rw [h1] at h2
      cases h2)
    have hp : 100 + (p - 100) = p := by omega
    refine ⟨w.1.length + (p - 100), ?_, fun e' => ?_⟩
    · unfold cw
      rw [List.getElem?_append_right (by rw [cwl_len]; omega), cwl_len, cwl_get, show w.1.length + (p - 100) - w.1.length = p - 100 by omega, h]
      simp [hp]
    · unfold cw wput
      rw [hb, List.set_append_right _ _ (by rw [cwl_len]; omega), cwl_len, show w.1.length + (p - 100) - w.1.length = p - 100 by omega]
      have := cwl_set ad cA e' w.2 100 (p - 100)
      rw [hp] at this
      rw [this]
/-! locals -/
def lsl (ad : Nat → Nat) : Nat → List (Option Value) → List (Nat × Value)
  | _, [] => []
  | i, none :: l => lsl ad (i + 1) l
  | i, some v :: l => (i, cv ad v) :: lsl ad (i + 1) l
theorem lsl_mem (ad : Nat → Nat) : ∀ (l : List (Option Value)) (i : Nat) (q : Nat × Value), q ∈ lsl ad i l ↔ ∃ (j : Nat) (v : Value), l[j]? = some (some v) ∧ q = (i + j, cv ad v)
  | [], i, q => by simp [lsl]
  | none :: l, i, q => by
    rw [lsl, lsl_mem ad l (i + 1) q]
    constructor
    · rintro ⟨j, v, h, rfl⟩
      exact ⟨j + 1, v, by simpa using h, by rw [show i + 1 + j = i + (j + 1) by omega]⟩
    · rintro ⟨j, v, h, rfl⟩
      cases j with
      | zero => simp at h
      | succ j => exact ⟨j, v, by simpa using h, by rw [show i + 1 + j = i + (j + 1) by omega]⟩
  | some u :: l, i, q => by
    rw [lsl, List.mem_cons, lsl_mem ad l (i + 1) q]
    constructor
    · rintro (rfl | ⟨j, v, h, rfl⟩)
      · exact ⟨0, u, by simp, by simp⟩
      · exact ⟨j + 1, v, by simpa using h, by rw [show i + 1 + j = i + (j + 1) by omega]⟩
    · rintro ⟨j, v, h, rfl⟩
      cases j with
      | zero =>
        simp at h
        subst h
        exact Or.inl (by simp)
      | succ j => exact Or.inr ⟨j, v, by simpa using h, by rw [show i + 1 + j = i + (j + 1) by omega]⟩
theorem lv_mono {ls : Array Slot} {n : Nat} {l l' : List (Nat × Value)} (h : lv_has ls n l) (hs : ∀ q ∈ l', q ∈ l) : lv_has ls n l' := ⟨h.1, h.2.1, fun q hq => h.2.2 q (hs q hq)⟩
theorem lsl_at {ad : Nat → Nat} {lsA : Array Slot} {n i : Nat} {ls : List (Option Value)} {v : Value} (h : lv_has lsA n (lsl ad 0 ls)) (hi : ls[i]? = some (some v)) : lsA[i]? = some (.val (cv ad v)) :=
  h.2.2 (i, cv ad v) ((lsl_mem ad ls 0 _).mpr ⟨i, v, hi, by simp⟩)
def lkill (ls : List (Option Value)) (i : Nat) : List (Option Value) := match i with
  | 0 => ls
  | k + 1 => match ls[k]? with
    | some (some (.long _)) => ls.set k none
    | some (some (.double _)) => ls.set k none
    | _ => ls
def lst1 (ls : List (Option Value)) (i : Nat) (v : Value) : List (Option Value) := (lkill ls i).set i (some v)
def lst2 (ls : List (Option Value)) (i : Nat) (v : Value) : List (Option Value) := (lst1 ls i v).set (i + 1) none
theorem lkill_at {ls : List (Option Value)} {i j : Nat} {v : Value} (h : (lkill ls i)[j]? = some (some v)) : ls[j]? = some (some v) ∧ ¬ (j + 1 = i ∧ v.category = 2) := by
  cases i with
  | zero => exact ⟨h, fun q => by omega⟩
  | succ k =>
    unfold lkill at h
    dsimp only at h
    by_cases hj : j = k
    · subst hj
      split at h
      · rename_i hu
        have hl := (List.getElem?_eq_some_iff.mp hu).1
        rw [List.getElem?_set_self hl] at h
        cases h
      · rename_i hu
        have hl := (List.getElem?_eq_some_iff.mp hu).1
        rw [List.getElem?_set_self hl] at h
        cases h
      · rename_i h1 h2
        refine ⟨h, fun q => ?_⟩
        cases v with
        | long x => exact h1 x h
        | double x => exact h2 x h
        | _ => simp [Value.category] at q
    · refine ⟨?_, fun q => hj (by omega)⟩
      split at h
      · rwa [List.getElem?_set_ne (fun q => hj q.symm)] at h
      · rwa [List.getElem?_set_ne (fun q => hj q.symm)] at h
      · exact h
theorem lst1_mem {ad : Nat → Nat} {ls : List (Option Value)} {i : Nat} {v : Value} {q : Nat × Value} (h : q ∈ lsl ad 0 (lst1 ls i v)) : q = (i, cv ad v) ∨ (q ∈ lsl ad 0 ls ∧ ¬ q.1 = i ∧ ¬ (q.1 + 1 = i ∧ q.2.category = 2)) := by
  obtain ⟨j, u, hu, rfl⟩ := (lsl_mem ad _ 0 _).mp h
  unfold lst1 at hu
  by_cases hj : i = j
  · subst hj
    have hl : i < (lkill ls i).length := by
      have := (List.getElem?_eq_some_iff.mp hu).1
      simpa using this
    rw [List.getElem?_set_self hl] at hu
    cases hu
    exact Or.inl (by simp)
  · rw [List.getElem?_set_ne hj] at hu
    obtain ⟨h1, h2⟩ := lkill_at hu
    refine Or.inr ⟨(lsl_mem ad ls 0 _).mpr ⟨j, u, h1, rfl⟩, fun q => hj (by simpa using q.symm), fun q => h2 ⟨by simpa using q.1, by rw [← cv_cat ad]; exact q.2⟩⟩
theorem lst2_mem {ad : Nat → Nat} {ls : List (Option Value)} {i : Nat} {v : Value} {q : Nat × Value} (h : q ∈ lsl ad 0 (lst2 ls i v)) : q = (i, cv ad v) ∨ (q ∈ lsl ad 0 ls ∧ ¬ q.1 = i ∧ ¬ q.1 = i + 1 ∧ ¬ (q.1 + 1 = i ∧ q.2.category = 2)) := by
  obtain ⟨j, u, hu, rfl⟩ := (lsl_mem ad _ 0 _).mp h
  unfold lst2 at hu
  by_cases hj : i + 1 = j
  · subst hj
    have hl : i + 1 < (lst1 ls i v).length := by
      have := (List.getElem?_eq_some_iff.mp hu).1
      simpa using this
    rw [List.getElem?_set_self hl] at hu
    cases hu
  · rw [List.getElem?_set_ne hj] at hu
    rcases lst1_mem ((lsl_mem ad (lst1 ls i v) 0 _).mpr ⟨j, u, hu, rfl⟩) with h1 | ⟨h1, h2, h3⟩
    · exact Or.inl h1
    · exact Or.inr ⟨h1, h2, fun q => hj (by simpa using q.symm), h3⟩
/-- fewer values known -/
def lsub (ls' ls : List (Option Value)) : Prop := ∀ (j : Nat) (v : Value), ls'[j]? = some (some v) → ls[j]? = some (some v)
theorem lsub_mem {ad : Nat → Nat} {ls' ls : List (Option Value)} (h : lsub ls' ls) {q : Nat × Value} (hq : q ∈ lsl ad 0 ls') : q ∈ lsl ad 0 ls := by
  obtain ⟨j, v, h1, rfl⟩ := (lsl_mem ad ls' 0 _).mp hq
  exact (lsl_mem ad ls 0 _).mpr ⟨j, v, h j v h1, rfl⟩
def lsubs : List (Option Value) → List (Option Value) → Prop
  | [], _ => True
  | none :: l', _ :: l => lsubs l' l
  | none :: l', [] => lsubs l' []
  | some v :: l', x :: l => x = some v ∧ lsubs l' l
  | some _ :: _, [] => False
theorem lsubs_ok : ∀ (l' l : List (Option Value)), lsubs l' l → lsub l' l
  | [], l, _ => fun j v h => by simp at h
  | none :: l', x :: l, h => fun j v hj => by
    cases j with
    | zero => simp at hj
    | succ j => simpa using lsubs_ok l' l h j v (by simpa using hj)
  | none :: l', [], h => fun j v hj => by
    cases j with
    | zero => simp at hj
    | succ j => simpa using lsubs_ok l' [] h j v (by simpa using hj)
  | some u :: l', x :: l, h => fun j v hj => by
    cases j with
    | zero =>
      simp at hj
      subst hj
      simp [h.1]
    | succ j => simpa using lsubs_ok l' l h.2 j v (by simpa using hj)
end
section
/-! ===== what stays: constant arrays, texts ===== -/
def zt_arr : List (String × String × String × FieldType × List Int32) := [("SquareCaller", "HOME_CELLS", "[I", .int, [1, 2, 7, 11, 14, 13, 8, 4]), ("SquareCaller", "HOME_FACINGS", "[I", .int, [0, 0, 3, 3, 2, 2, 1, 1]), ("SquareCaller", "STEP_X", "[I", .int, [0, 1, 0, -1]), ("SquareCaller", "STEP_Y", "[I", .int, [1, 0, -1, 0]), ("SquareCaller", "FACING_SIGNS", "[C", .char, [94, 62, 118, 60]), ("SquareCallerModel", "HOME_CELL", "[I", .int, [1, 2, 7, 11, 14, 13, 8, 4]), ("SquareCallerModel", "HOME_FACE", "[I", .int, [0, 0, 3, 3, 2, 2, 1, 1]), ("SquareCallerModel", "GROUP", "[I", .int, [255, 51, 204, 85, 170])]
def zt_words : List String := ["all", "heads", "sides", "men", "ladies", "centers", "outers", "belles", "beaus", "forward", "back", "left", "right", "around", "pass", "star", "box", "slide", "trade", "fold", "ring", "", "^>v<"]
def zt_str : List (List Nat) := [[97, 108, 108], [104, 101, 97, 100, 115], [115, 105, 100, 101, 115], [109, 101, 110], [108, 97, 100, 105, 101, 115], [99, 101, 110, 116, 101, 114, 115], [111, 117, 116, 101, 114, 115], [98, 101, 108, 108, 101, 115], [98, 101, 97, 117, 115], [102, 111, 114, 119, 97, 114, 100], [98, 97, 99, 107], [108, 101, 102, 116], [114, 105, 103, 104, 116], [97, 114, 111, 117, 110, 100], [112, 97, 115, 115], [115, 116, 97, 114], [98, 111, 120], [115, 108, 105, 100, 101], [116, 114, 97, 100, 101], [102, 111, 108, 100], [114, 105, 110, 103], [], [94, 62, 118, 60]]
/-- which entry of which class is which text -/
def zt_ref : List (String × Nat × Nat) := [("SquareCaller$Words", 9, 0), ("SquareCaller$Words", 11, 1), ("SquareCaller$Words", 13, 2), ("SquareCaller$Words", 15, 3), ("SquareCaller$Words", 17, 4), ("SquareCaller$Words", 19, 5), ("SquareCaller$Words", 21, 6), ("SquareCaller$Words", 23, 7), ("SquareCaller$Words", 25, 8), ("SquareCaller$Words", 29, 9), ("SquareCaller$Words", 31, 10), ("SquareCaller$Words", 33, 11), ("SquareCaller$Words", 35, 12), ("SquareCaller$Words", 37, 13), ("SquareCaller$Words", 39, 14), ("SquareCaller$Words", 41, 15), ("SquareCaller$Words", 43, 16), ("SquareCaller$Words", 45, 17), ("SquareCaller$Words", 47, 18), ("SquareCaller$Words", 49, 19), ("SquareCaller$Words", 51, 20), ("SquareCaller$Words", 27, 21), ("SquareCallerModel", 9, 0), ("SquareCallerModel", 11, 1), ("SquareCallerModel", 13, 2), ("SquareCallerModel", 15, 3), ("SquareCallerModel", 17, 4), ("SquareCallerModel", 19, 5), ("SquareCallerModel", 21, 6), ("SquareCallerModel", 23, 7), ("SquareCallerModel", 25, 8), ("SquareCallerModel", 33, 9), ("SquareCallerModel", 35, 10), ("SquareCallerModel", 37, 11), ("SquareCallerModel", 39, 12), ("SquareCallerModel", 41, 13), ("SquareCallerModel", 43, 14), ("SquareCallerModel", 45, 15), ("SquareCallerModel", 47, 16), ("SquareCallerModel", 49, 17), ("SquareCallerModel", 51, 18), ("SquareCallerModel", 53, 19), ("SquareCallerModel", 55, 20), ("SquareCallerModel", 294, 22)]
/-- the words that every machine state of the walk keeps; those on nest mates -/
def lw_gd : List Cond := lw_tbl.filter goodWord
def isNest : Cond → Bool
  | .fieldLinkNest .. => true
  | .methodLinkNest .. => true
  | _ => false
def lw_ns : List Cond := lw_tbl.filter isNest
theorem gd_mem {w : Cond} (h : w ∈ lw_tbl) (hg : goodWord w = true) : w ∈ lw_gd := List.mem_filter.mpr ⟨h, hg⟩
theorem ns_mem {w : Cond} (h : w ∈ lw_tbl) (hg : isNest w = true) : w ∈ lw_ns := List.mem_filter.mpr ⟨h, hg⟩
theorem ns_warm {w : Cond} (h : w ∈ lw_ns) {s U : State} (hW : s.WarmedH U.vm) (hZ : va_Nw w s) : va_Nw w U := by
  have h1 := (List.mem_filter.mp h).2
  cases w <;> first | exact hZ.warmF hW | exact hZ.warmM hW | (exact absurd h1 (by simp [isNest]))
theorem ns_tab {w : Cond} (h : w ∈ lw_ns) : w.onTables = true := by
  have h1 := (List.mem_filter.mp h).2
  cases w <;> first | rfl | (exact absurd h1 (by simp [isNest]))
def St (ad : Nat → Nat) (A : Nat → Prop) (U : State) (H : Heap) : Prop :=
  (∀ (k : Nat) (q : String × String × String × FieldType × List Int32), zt_arr[k]? = some q → va_Z q.1 q.2.1 q.2.2.1 (.ref (ad (1000 + k))) A U H ∧ va_T q.2.2.2.1 (ad (1000 + k)) q.2.2.2.2.length (fun j => .int (q.2.2.2.2.getD j 0)) A U H) ∧
  (∀ (k : Nat) (q : List Nat), zt_str[k]? = some q → va_O "java/lang/String" (ad (2000 + k)) A U H ∧ va_OF "java/lang/String" "coder" "B" (.int 0) (ad (2000 + k)) A U H ∧ va_OF "java/lang/String" "value" "[B" (.ref (ad (3000 + k))) (ad (2000 + k)) A U H ∧ va_T .byte (ad (3000 + k)) q.length (fun j => .int (nI (q.getD j 0))) A U H) ∧
  ((∀ q ∈ zt_ref, vk_R q.1 q.2.1 (zt_words.getD q.2.2 "") (ad (2000 + q.2.2)) U) ∧ (∀ w ∈ lw_ns, va_Nw w U) ∧ va_AO "java/lang/String" U) ∧
  va_Z "java/lang/String" "COMPACT_STRINGS" "Z" (.int 1) A U H ∧ va_Zq "jdk/internal/util/Preconditions" "SIOOBE_FORMATTER" "Ljava/util/function/BiFunction;" A U H
theorem St.narrow {ad : Nat → Nat} {A B : Nat → Prop} {U : State} {H : Heap} (h : St ad A U H) (hAB : ∀ q, B q → A q) : St ad B U H :=
  ⟨fun k q hk => ⟨(h.1 k q hk).1.narrow hAB, (h.1 k q hk).2.narrow hAB⟩, fun k q hk => ⟨(h.2.1 k q hk).1.narrow hAB, (h.2.1 k q hk).2.1.narrow hAB, (h.2.1 k q hk).2.2.1.narrow hAB, (h.2.1 k q hk).2.2.2.narrow hAB⟩, h.2.2.1, h.2.2.2.1.narrow hAB, h.2.2.2.2.narrow hAB⟩
theorem St.kept {ad : Nat → Nat} {A : Nat → Prop} {U : State} {H H1 : Heap} (h : St ad A U H) (hq : ∀ a : Nat, a < H.size → ¬ A a → H1[a]? = H[a]?) : St ad A U H1 :=
  ⟨fun k q hk => ⟨(h.1 k q hk).1.kept hq, (h.1 k q hk).2.kept hq⟩, fun k q hk => ⟨(h.2.1 k q hk).1.kept hq, (h.2.1 k q hk).2.1.kept hq, (h.2.1 k q hk).2.2.1.kept hq, (h.2.1 k q hk).2.2.2.kept hq⟩, h.2.2.1, h.2.2.2.1.kept hq, h.2.2.2.2.kept hq⟩
theorem St.warm {ad : Nat → Nat} {A : Nat → Prop} {s U : State} {H : Heap} (hW : s.WarmedH U.vm) (h : St ad A s H) : St ad A U H :=
  ⟨fun k q hk => ⟨(h.1 k q hk).1.moved hW.alike, (h.1 k q hk).2.moved hW.alike⟩, fun k q hk => ⟨(h.2.1 k q hk).1.moved hW.alike, (h.2.1 k q hk).2.1.moved hW.alike, (h.2.1 k q hk).2.2.1.moved hW.alike, (h.2.1 k q hk).2.2.2.moved hW.alike⟩, ⟨fun q hq => (h.2.2.1.1 q hq).warm hW, fun w hw => ns_warm hw hW (h.2.2.1.2.1 w hw), h.2.2.1.2.2.moved hW.alike⟩, h.2.2.2.1.moved hW.alike, h.2.2.2.2.moved hW.alike⟩
theorem St.same {ad : Nat → Nat} {A : Nat → Prop} {s U : State} {H : Heap} (hv : U.vm = s.vm) (h : St ad A s H) : St ad A U H := by
  have ha : s.vm.Alike U.vm := by rw [hv]; exact Vm.Alike.refl _
  exact ⟨fun k q hk => ⟨(h.1 k q hk).1.moved ha, (h.1 k q hk).2.moved ha⟩, fun k q hk => ⟨(h.2.1 k q hk).1.moved ha, (h.2.1 k q hk).2.1.moved ha, (h.2.1 k q hk).2.2.1.moved ha, (h.2.1 k q hk).2.2.2.moved ha⟩, ⟨fun q hq => (h.2.2.1.1 q hq).same hv, fun w hw => (h.2.2.1.2.1 w hw).same (ns_tab hw) hv.symm, h.2.2.1.2.2.moved ha⟩, h.2.2.2.1.moved ha, h.2.2.2.2.moved ha⟩
theorem St.ag {ad ad' : Nat → Nat} {A : Nat → Prop} {U : State} {H : Heap} (h : St ad A U H) (hg : ∀ q, 1000 ≤ q → ad' q = ad q) : St ad' A U H := by
  refine ⟨fun k q hk => ?_, fun k q hk => ?_, ⟨fun q hq => ?_, h.2.2.1.2⟩, h.2.2.2.1, h.2.2.2.2⟩
  · rw [hg _ (Nat.le_add_right _ _)]; exact h.1 k q hk
  · rw [hg _ (show 1000 ≤ 2000 + k by omega), hg _ (show 1000 ≤ 3000 + k by omega)]; exact h.2.1 k q hk
  · rw [hg _ (show 1000 ≤ 2000 + q.2.2 by omega)]; exact h.2.2.1.1 q hq
/-! ===== the class tables ===== -/
def clC (ci : Nat) : String := match ci with
  | 0 => RX0 | 1 => RX1 | 2 => RX2 | 3 => RX4 | 4 => RX5 | 5 => RX6 | 6 => RX8 | _ => RX9
def clT (ci : Nat) : u_T := match ci with
  | 0 => TX0 | 1 => TX1 | 2 => TX2 | 3 => TX4 | 4 => TX5 | 5 => TX6 | 6 => TX8 | _ => TX9
def clN (ci : Nat) : Nat := match ci with
  | 0 => 5 | 1 => 3 | 2 => 8 | 3 => 3 | 4 => 4 | 5 => 9 | 6 => 9 | _ => 35
def clY (ci : Nat) : Nat → FieldType := match ci with
  | 0 => tyX0 | 1 => tyX1 | 2 => tyX2 | 3 => tyX4 | 4 => tyX5 | 5 => tyX6 | 6 => tyX8 | _ => tyX9
theorem cl_in0 : ∀ w ∈ u_ws RX0 TX0 5, w ∈ lw_gd := by decide +kernel
theorem cl_in1 : ∀ w ∈ u_ws RX1 TX1 3, w ∈ lw_gd := by decide +kernel
theorem cl_in2 : ∀ w ∈ u_ws RX2 TX2 8, w ∈ lw_gd := by decide +kernel
theorem cl_in4 : ∀ w ∈ u_ws RX4 TX4 3, w ∈ lw_gd := by decide +kernel
theorem cl_in5 : ∀ w ∈ u_ws RX5 TX5 4, w ∈ lw_gd := by decide +kernel
theorem cl_in6 : ∀ w ∈ u_ws RX6 TX6 9, w ∈ lw_gd := by decide +kernel
theorem cl_in8 : ∀ w ∈ u_ws RX8 TX8 9, w ∈ lw_gd := by decide +kernel
theorem cl_in9 : ∀ w ∈ u_ws RX9 TX9 35, w ∈ lw_gd := by decide +kernel
theorem cl_at : ∀ ci, ci < 8 → vwCl[ci]? = some (clC ci, clT ci, clN ci) ∧ (∀ w ∈ u_ws (clC ci) (clT ci) (clN ci), w ∈ lw_gd) ∧ (∀ k, k < clN ci → parseFieldDescriptor (clT ci k).2.2.1 = some (clY ci k)) ∧ (∀ a, a < clN ci → ∀ b, b < clN ci → a ≠ b → (clT ci a).2.1 ≠ (clT ci b).2.1) := by
  intro ci h
  match ci, h with
  | 0, _ => exact ⟨rfl, cl_in0, tyX0_ok, nmX0⟩
  | 1, _ => exact ⟨rfl, cl_in1, tyX1_ok, nmX1⟩
  | 2, _ => exact ⟨rfl, cl_in2, tyX2_ok, nmX2⟩
  | 3, _ => exact ⟨rfl, cl_in4, tyX4_ok, nmX4⟩
  | 4, _ => exact ⟨rfl, cl_in5, tyX5_ok, nmX5⟩
  | 5, _ => exact ⟨rfl, cl_in6, tyX6_ok, nmX6⟩
  | 6, _ => exact ⟨rfl, cl_in8, tyX8_ok, nmX8⟩
  | 7, _ => exact ⟨rfl, cl_in9, tyX9_ok, nmX9⟩
theorem gd_good {w : Cond} (h : w ∈ lw_gd) : (w.onTables && w.keeps) = true ∨ ∃ ty, w = .arrayClass ty := good_of_word (List.mem_filter.mp h).2
theorem gd_goodIn {y : MethodName} {cc : ByteArray} {n : Nat} {ret : Option FieldType} (big : List Cond) (hb : ∀ w ∈ lw_gd, w ∈ big) (h : Cond.code y cc n ret ∈ lw_gd) : GoodIn big (Cond.code y cc n ret :: lw_gd) := by
  intro w hw
  have hm : w ∈ lw_gd := (List.mem_cons.mp hw).elim (fun e => e ▸ h) id
  exact ⟨hb w hm, gd_good hm⟩
/-- field k of class ci, as entry idx of class own names it -/
def FL (own : String) (idx ci k : Nat) : Prop := ci < 8 ∧ k < clN ci ∧ (Cond.fieldLink own idx (clT ci k).1 (clT ci k).2.1 (clT ci k).2.2.1 ∈ lw_gd ∨ ∃ host, Cond.fieldLinkNest own idx (clT ci k).1 (clT ci k).2.1 (clT ci k).2.2.1 host ∈ lw_ns)
/-! ===== a method's walk ===== -/
def tyl (cA : Nat → ClassId) : List (ClassId × FieldType) := [(cA 0, .int), (cA 1, .long), (cA 2, .boolean), (cA 3, .object "java/lang/String")]
def Cx (M : MI) (p : Program) (s : State) (m : MethodId) (args : Array Value) (meth : Method) (c : Code) (D : va_G) (cA : Nat → ClassId) (ad : Nat → Nat) (A : Nat → Prop) : Prop :=
  p.tables.exec = Jvm.exec ∧ c.code = M.2.1 ∧ c.maxLocals = M.2.2.1 ∧ meth.sig.returnType = M.2.2.2 ∧ meth.locks = false ∧ meth.name = M.1.name ∧ s.vm.findClass M.1.cls = some m.cls ∧ (∀ w ∈ lw_gd, w.before args s = true) ∧ va_K D vwCl (tyl cA) s ∧ (∀ q : Nat, s.heap.size ≤ q → A q) ∧ St ad A s s.heap
/-- the addresses of places: those of old places stay; of a method that makes nothing, all -/
def Ag (mc : Nat) (w0 : WD) (ad ad' : Nat → Nat) : Prop := (mc = 0 → ad' = ad) ∧ ∀ q : Nat, (wg w0 q ≠ none ∨ 1000 ≤ q) → ad' q = ad q
def rmk (k mc ms : Nat) : Room := { frames := k, cells := mc, slots := ms, locals := 38 * k }
abbrev ZT : Type := List Frame → Array Value → State → va_G → (Nat → ClassId) → (Nat → Nat) → (Nat → Prop) → State → Prop
abbrev XT : Type := Array Value → State → (Nat → Nat) → (Nat → Prop) → Prop
/-- the walk goes on from here to its end Z: method M, depth k, room for mc cells of ms slots, begun in the world w0; nc cells of ns slots made; at pc with locals ls, stack st, world w -/
def Rq (Z : ZT) (X : XT) (M : MI) (k mc ms : Nat) (w0 : WD) (nc ns pc : Nat) (ls : List (Option Value)) (st : List Value) (w : WD) : Prop :=
  ∀ (p : Program) (l : Launch) (e : Env) (s : State) (m : MethodId) (args : Array Value) (below : List Frame) (meth : Method) (c : Code) (D : va_G) (cA : Nat → ClassId) (ad0 : Nat → Nat) (A : Nat → Prop), Cx M p s m args meth c D cA ad0 A → X args s ad0 A →
    ∀ (ad : Nat → Nat) (H : Heap) (locs : List Loc) (lsA : Array Slot), Ag mc w0 ad0 ad → va_P D vwCl (cw ad cA w) H → va_D A (cw ad cA w) → va_S A s.heap H locs → lv_has lsA M.2.2.1 (lsl ad 0 ls) →
      W p l e (rmk k mc ms) s m args below meth c H locs nc ns (Z below args s D cA ad0 A) (F0 m pc lsA (st.map (cv ad)))
/-- a method's end: it returns r, and leaves the world w' -/
def QQ (D : va_G) (cA : Nat → ClassId) (ad0 : Nat → Nat) (mc : Nat) (w0 : WD) (r : Option Value) (w' : WD) (A : Nat → Prop) : Array Value → State → Outcome → State → Prop := fun _ st oc t =>
  ∃ ad : Nat → Nat, Ag mc w0 ad0 ad ∧ oc = .returned (r.map (cv ad)) ∧ va_P D vwCl (cw ad cA w') t.heap ∧ va_D A (cw ad cA w') ∧ va_F A st t
def Zm (mc ms : Nat) (w0 : WD) (r : Option Value) (w' : WD) : ZT := fun below args s D cA ad0 A => MQ below (QQ D cA ad0 mc w0 r w' A) args s mc ms A
def Xm : XT := fun _ _ _ _ => True
abbrev Rn (M : MI) (k mc ms : Nat) (w0 : WD) (r : Option Value) (w' : WD) (nc ns pc : Nat) (ls : List (Option Value)) (st : List Value) (w : WD) : Prop := Rq (Zm mc ms w0 r w') Xm M k mc ms w0 nc ns pc ls st w
/-- method M, called with these arguments in the world w, returns r and leaves w' -/
def Sem (M : MI) (k mc ms : Nat) (as : List Value) (w : WD) (r : Option Value) (w' : WD) : Prop :=
  ∀ (l : Launch) (D : va_G) (cA : Nat → ClassId) (ad : Nat → Nat) (sz : Nat), Met l M.1 (Cond.code M.1 M.2.1 M.2.2.1 M.2.2.2 :: lw_gd) (rmk k mc ms) (va_Pc (as.map (cv ad)) (fun U => U.heap.size = sz ∧ va_P D vwCl (cw ad cA w) U.heap ∧ va_K D vwCl (tyl cA) U ∧ va_D (fun _ => True) (cw ad cA w) ∧ St ad (va_A (cw ad cA w) sz) U U.heap))
    (QQ D cA ad mc w r w' (va_A (cw ad cA w) sz)) mc ms (va_A (cw ad cA w) sz)
def lsa : List Value → List (Option Value)
  | [] => []
  | .long x :: l => some (.long x) :: none :: lsa l
  | .double x :: l => some (.double x) :: none :: lsa l
  | v :: l => some v :: lsa l
end
section
theorem lst1_has {ad : Nat → Nat} {lsB : Array Slot} {n i : Nat} {ls ls' : List (Option Value)} {v : Value} (hl : lv_has lsB n ((i, cv ad v) :: (lsl ad 0 ls).filter (fun q => !(q.1 == i) && !(q.1 + 1 == i && q.2.category == 2)))) (h : lst1 ls i v = ls') : lv_has lsB n (lsl ad 0 ls') := by
  refine lv_mono hl (fun q hq => ?_)
  rw [← h] at hq
  rcases lst1_mem hq with h1 | ⟨h1, h2, h3⟩
  · rw [h1]
    exact List.mem_cons_self
  · refine List.mem_cons_of_mem _ (List.mem_filter.mpr ⟨h1, ?_⟩)
    simp [h2]
    exact Classical.not_and_iff_not_or_not.mp h3
theorem lst2_has {ad : Nat → Nat} {lsB : Array Slot} {n i : Nat} {ls ls' : List (Option Value)} {v : Value} (hl : lv_has lsB n ((i, cv ad v) :: (lsl ad 0 ls).filter (fun q => !(q.1 == i) && (!(q.1 == i + 1) && !(q.1 + 1 == i && q.2.category == 2))))) (h : lst2 ls i v = ls') : lv_has lsB n (lsl ad 0 ls') := by
  refine lv_mono hl (fun q hq => ?_)
  rw [← h] at hq
  rcases lst2_mem hq with h1 | ⟨h1, h2, h4, h3⟩
  · rw [h1]
    exact List.mem_cons_self
  · refine List.mem_cons_of_mem _ (List.mem_filter.mpr ⟨h1, ?_⟩)
    simp [h2, h4]
    exact Classical.not_and_iff_not_or_not.mp h3
section RR
variable {Z : ZT} {X : XT} {M : MI} {k mc ms : Nat} {w0 : WD} {nc ns pc : Nat} {ls ls' : List (Option Value)} {st : List Value} {w w2 : WD}
theorem r_iconst {n : Int} {v : Int32} (hd : decode M.2.1 pc = .ok (.iconst n, 1)) (hv : Int32.ofInt n = v) (K : Rq Z X M k mc ms w0 nc ns (pc + 1) ls (.int v :: st) w) : Rq Z X M k mc ms w0 nc ns pc ls (st) w :=
  fun p l e s m args below meth c D cA ad0 A hC hX ad H locs lsA hg hP hD hS hl => lv_iconst hC.1 hC.2.1 hd hv (K p l e s m args below meth c D cA ad0 A hC hX ad H locs lsA hg hP hD hS hl)
theorem r_bipush {n : Int} {v : Int32} (hd : decode M.2.1 pc = .ok (.bipush n, 2)) (hv : (Int8.ofInt n).toInt32 = v) (K : Rq Z X M k mc ms w0 nc ns (pc + 2) ls (.int v :: st) w) : Rq Z X M k mc ms w0 nc ns pc ls (st) w :=
  fun p l e s m args below meth c D cA ad0 A hC hX ad H locs lsA hg hP hD hS hl => lv_bipush hC.1 hC.2.1 hd hv (K p l e s m args below meth c D cA ad0 A hC hX ad H locs lsA hg hP hD hS hl)
theorem r_sipush {n : Int} {v : Int32} (hd : decode M.2.1 pc = .ok (.sipush n, 3)) (hv : (Int16.ofInt n).toInt32 = v) (K : Rq Z X M k mc ms w0 nc ns (pc + 3) ls (.int v :: st) w) : Rq Z X M k mc ms w0 nc ns pc ls (st) w :=
  fun p l e s m args below meth c D cA ad0 A hC hX ad H locs lsA hg hP hD hS hl => lv_sipush hC.1 hC.2.1 hd hv (K p l e s m args below meth c D cA ad0 A hC hX ad H locs lsA hg hP hD hS hl)
theorem r_lconst {n : Fin 2} {v : Int64} (hd : decode M.2.1 pc = .ok (.lconst n, 1)) (hv : Int64.ofNat (n : Nat) = v) (K : Rq Z X M k mc ms w0 nc ns (pc + 1) ls (.long v :: st) w) : Rq Z X M k mc ms w0 nc ns pc ls (st) w :=
  fun p l e s m args below meth c D cA ad0 A hC hX ad H locs lsA hg hP hD hS hl => lv_lconst hC.1 hC.2.1 hd hv (K p l e s m args below meth c D cA ad0 A hC hX ad H locs lsA hg hP hD hS hl)
theorem r_iload_n {j : Fin 4} {x : Int32} (hd : decode M.2.1 pc = .ok (.iload_n j, 1)) (hx : ls[(j : Nat)]? = some (some (.int x))) (K : Rq Z X M k mc ms w0 nc ns (pc + 1) ls (.int x :: st) w) : Rq Z X M k mc ms w0 nc ns pc ls (st) w :=
  fun p l e s m args below meth c D cA ad0 A hC hX ad H locs lsA hg hP hD hS hl => lv_iload_n hC.1 hC.2.1 hd rfl (lsl_at hl hx) (K p l e s m args below meth c D cA ad0 A hC hX ad H locs lsA hg hP hD hS hl)
theorem r_iload {j : Nat} {x : Int32} (hd : decode M.2.1 pc = .ok (.iload j, 2)) (hx : ls[j]? = some (some (.int x))) (K : Rq Z X M k mc ms w0 nc ns (pc + 2) ls (.int x :: st) w) : Rq Z X M k mc ms w0 nc ns pc ls (st) w :=
  fun p l e s m args below meth c D cA ad0 A hC hX ad H locs lsA hg hP hD hS hl => lv_iload hC.1 hC.2.1 hd (lsl_at hl hx) (K p l e s m args below meth c D cA ad0 A hC hX ad H locs lsA hg hP hD hS hl)
theorem r_lload_n {j : Fin 4} {x : Int64} (hd : decode M.2.1 pc = .ok (.lload_n j, 1)) (hx : ls[(j : Nat)]? = some (some (.long x))) (K : Rq Z X M k mc ms w0 nc ns (pc + 1) ls (.long x :: st) w) : Rq Z X M k mc ms w0 nc ns pc ls (st) w :=
  fun p l e s m args below meth c D cA ad0 A hC hX ad H locs lsA hg hP hD hS hl => lv_lload_n hC.1 hC.2.1 hd rfl (lsl_at hl hx) (K p l e s m args below meth c D cA ad0 A hC hX ad H locs lsA hg hP hD hS hl)
theorem r_lload {j : Nat} {x : Int64} (hd : decode M.2.1 pc = .ok (.lload j, 2)) (hx : ls[j]? = some (some (.long x))) (K : Rq Z X M k mc ms w0 nc ns (pc + 2) ls (.long x :: st) w) : Rq Z X M k mc ms w0 nc ns pc ls (st) w :=
  fun p l e s m args below meth c D cA ad0 A hC hX ad H locs lsA hg hP hD hS hl => lv_lload hC.1 hC.2.1 hd (lsl_at hl hx) (K p l e s m args below meth c D cA ad0 A hC hX ad H locs lsA hg hP hD hS hl)
theorem r_aload_n {j : Fin 4} {x : Nat} (hd : decode M.2.1 pc = .ok (.aload_n j, 1)) (hx : ls[(j : Nat)]? = some (some (.ref x))) (K : Rq Z X M k mc ms w0 nc ns (pc + 1) ls (.ref x :: st) w) : Rq Z X M k mc ms w0 nc ns pc ls (st) w :=
  fun p l e s m args below meth c D cA ad0 A hC hX ad H locs lsA hg hP hD hS hl => lv_aload_n hC.1 hC.2.1 hd rfl (lsl_at hl hx) (K p l e s m args below meth c D cA ad0 A hC hX ad H locs lsA hg hP hD hS hl)
theorem r_aload {j : Nat} {x : Nat} (hd : decode M.2.1 pc = .ok (.aload j, 2)) (hx : ls[j]? = some (some (.ref x))) (K : Rq Z X M k mc ms w0 nc ns (pc + 2) ls (.ref x :: st) w) : Rq Z X M k mc ms w0 nc ns pc ls (st) w :=
  fun p l e s m args below meth c D cA ad0 A hC hX ad H locs lsA hg hP hD hS hl => lv_aload hC.1 hC.2.1 hd (lsl_at hl hx) (K p l e s m args below meth c D cA ad0 A hC hX ad H locs lsA hg hP hD hS hl)
theorem r_istore_n {j : Fin 4} {x : Int32} (hd : decode M.2.1 pc = .ok (.istore_n j, 1)) (hn : (j : Nat) < M.2.2.1) (h : lst1 ls (j : Nat) (.int x) = ls') (K : Rq Z X M k mc ms w0 nc ns (pc + 1) ls' st w) : Rq Z X M k mc ms w0 nc ns pc ls (.int x :: st) w := by
  intro p l e s m args below meth c D cA ad0 A hC hX ad H locs lsA hg hP hD hS hl
  refine lv_istore_n hC.1 hC.2.1 hd rfl hl hn rfl (fun lsB hl2 => ?_)
  exact K p l e s m args below meth c D cA ad0 A hC hX ad H locs lsB hg hP hD hS (lst1_has (v := .int x) hl2 h)
theorem r_istore {j : Nat} {x : Int32} (hd : decode M.2.1 pc = .ok (.istore j, 2)) (hn : j < M.2.2.1) (h : lst1 ls j (.int x) = ls') (K : Rq Z X M k mc ms w0 nc ns (pc + 2) ls' st w) : Rq Z X M k mc ms w0 nc ns pc ls (.int x :: st) w := by
  intro p l e s m args below meth c D cA ad0 A hC hX ad H locs lsA hg hP hD hS hl
  refine lv_istore hC.1 hC.2.1 hd hl hn rfl (fun lsB hl2 => ?_)
  exact K p l e s m args below meth c D cA ad0 A hC hX ad H locs lsB hg hP hD hS (lst1_has (v := .int x) hl2 h)
theorem r_lstore_n {j : Fin 4} {x : Int64} (hd : decode M.2.1 pc = .ok (.lstore_n j, 1)) (hn : (j : Nat) + 1 < M.2.2.1) (h : lst2 ls (j : Nat) (.long x) = ls') (K : Rq Z X M k mc ms w0 nc ns (pc + 1) ls' st w) : Rq Z X M k mc ms w0 nc ns pc ls (.long x :: st) w := by
  intro p l e s m args below meth c D cA ad0 A hC hX ad H locs lsA hg hP hD hS hl
  refine lv_lstore_n hC.1 hC.2.1 hd rfl hl hn rfl (fun lsB hl2 => ?_)
  exact K p l e s m args below meth c D cA ad0 A hC hX ad H locs lsB hg hP hD hS (lst2_has (v := .long x) hl2 h)
theorem r_lstore {j : Nat} {x : Int64} (hd : decode M.2.1 pc = .ok (.lstore j, 2)) (hn : j + 1 < M.2.2.1) (h : lst2 ls j (.long x) = ls') (K : Rq Z X M k mc ms w0 nc ns (pc + 2) ls' st w) : Rq Z X M k mc ms w0 nc ns pc ls (.long x :: st) w := by
  intro p l e s m args below meth c D cA ad0 A hC hX ad H locs lsA hg hP hD hS hl
  refine lv_lstore hC.1 hC.2.1 hd hl hn rfl (fun lsB hl2 => ?_)
  exact K p l e s m args below meth c D cA ad0 A hC hX ad H locs lsB hg hP hD hS (lst2_has (v := .long x) hl2 h)
theorem r_astore_n {j : Fin 4} {x : Nat} (hd : decode M.2.1 pc = .ok (.astore_n j, 1)) (hn : (j : Nat) < M.2.2.1) (h : lst1 ls (j : Nat) (.ref x) = ls') (K : Rq Z X M k mc ms w0 nc ns (pc + 1) ls' st w) : Rq Z X M k mc ms w0 nc ns pc ls (.ref x :: st) w := by
  intro p l e s m args below meth c D cA ad0 A hC hX ad H locs lsA hg hP hD hS hl
  refine lv_astore_n hC.1 hC.2.1 hd rfl hl hn rfl (fun lsB hl2 => ?_)
  exact K p l e s m args below meth c D cA ad0 A hC hX ad H locs lsB hg hP hD hS (lst1_has (v := .ref x) hl2 h)
theorem r_astore {j : Nat} {x : Nat} (hd : decode M.2.1 pc = .ok (.astore j, 2)) (hn : j < M.2.2.1) (h : lst1 ls j (.ref x) = ls') (K : Rq Z X M k mc ms w0 nc ns (pc + 2) ls' st w) : Rq Z X M k mc ms w0 nc ns pc ls (.ref x :: st) w := by
  intro p l e s m args below meth c D cA ad0 A hC hX ad H locs lsA hg hP hD hS hl
  refine lv_astore hC.1 hC.2.1 hd hl hn rfl (fun lsB hl2 => ?_)
  exact K p l e s m args below meth c D cA ad0 A hC hX ad H locs lsB hg hP hD hS (lst1_has (v := .ref x) hl2 h)
theorem r_iinc {j : Nat} {n : Int} {x v : Int32} (hd : decode M.2.1 pc = .ok (.iinc j n, 3)) (hn : j < M.2.2.1) (hx : ls[j]? = some (some (.int x))) (hv : x + Int32.ofInt n = v) (h : lst1 ls j (.int v) = ls') (K : Rq Z X M k mc ms w0 nc ns (pc + 3) ls' st w) : Rq Z X M k mc ms w0 nc ns pc ls st w := by
  intro p l e s m args below meth c D cA ad0 A hC hX ad H locs lsA hg hP hD hS hl
  have hm : (j, Value.int x) ∈ lsl ad 0 ls := (lsl_mem ad ls 0 _).mpr ⟨j, .int x, hx, by simp [cv]⟩
  obtain ⟨q, hq⟩ := List.getElem?_of_mem hm
  refine lv_iinc hC.1 hC.2.1 hd hl (k := q) hq hv hn rfl (fun lsB hl2 => ?_)
  exact K p l e s m args below meth c D cA ad0 A hC hX ad H locs lsB hg hP hD hS (lst1_has (v := .int v) hl2 h)
theorem r_iadd {x y : Int32} (hd : decode M.2.1 pc = .ok (.iadd, 1)) (K : Rq Z X M k mc ms w0 nc ns (pc + 1) ls (.int (x + y) :: st) w) : Rq Z X M k mc ms w0 nc ns pc ls (.int y :: .int x :: st) w :=
  fun p l e s m args below meth c D cA ad0 A hC hX ad H locs lsA hg hP hD hS hl => lv_iadd hC.1 hC.2.1 hd (K p l e s m args below meth c D cA ad0 A hC hX ad H locs lsA hg hP hD hS hl)
theorem r_isub {x y : Int32} (hd : decode M.2.1 pc = .ok (.isub, 1)) (K : Rq Z X M k mc ms w0 nc ns (pc + 1) ls (.int (x - y) :: st) w) : Rq Z X M k mc ms w0 nc ns pc ls (.int y :: .int x :: st) w :=
  fun p l e s m args below meth c D cA ad0 A hC hX ad H locs lsA hg hP hD hS hl => lv_isub hC.1 hC.2.1 hd (K p l e s m args below meth c D cA ad0 A hC hX ad H locs lsA hg hP hD hS hl)
theorem r_imul {x y : Int32} (hd : decode M.2.1 pc = .ok (.imul, 1)) (K : Rq Z X M k mc ms w0 nc ns (pc + 1) ls (.int (x * y) :: st) w) : Rq Z X M k mc ms w0 nc ns pc ls (.int y :: .int x :: st) w :=
  fun p l e s m args below meth c D cA ad0 A hC hX ad H locs lsA hg hP hD hS hl => lv_imul hC.1 hC.2.1 hd (K p l e s m args below meth c D cA ad0 A hC hX ad H locs lsA hg hP hD hS hl)
theorem r_iand {x y : Int32} (hd : decode M.2.1 pc = .ok (.iand, 1)) (K : Rq Z X M k mc ms w0 nc ns (pc + 1) ls (.int (x &&& y) :: st) w) : Rq Z X M k mc ms w0 nc ns pc ls (.int y :: .int x :: st) w :=
  fun p l e s m args below meth c D cA ad0 A hC hX ad H locs lsA hg hP hD hS hl => lv_iand hC.1 hC.2.1 hd (K p l e s m args below meth c D cA ad0 A hC hX ad H locs lsA hg hP hD hS hl)
theorem r_ior {x y : Int32} (hd : decode M.2.1 pc = .ok (.ior, 1)) (K : Rq Z X M k mc ms w0 nc ns (pc + 1) ls (.int (x ||| y) :: st) w) : Rq Z X M k mc ms w0 nc ns pc ls (.int y :: .int x :: st) w :=
  fun p l e s m args below meth c D cA ad0 A hC hX ad H locs lsA hg hP hD hS hl => lv_ior hC.1 hC.2.1 hd (K p l e s m args below meth c D cA ad0 A hC hX ad H locs lsA hg hP hD hS hl)
theorem r_ixor {x y : Int32} (hd : decode M.2.1 pc = .ok (.ixor, 1)) (K : Rq Z X M k mc ms w0 nc ns (pc + 1) ls (.int (x ^^^ y) :: st) w) : Rq Z X M k mc ms w0 nc ns pc ls (.int y :: .int x :: st) w :=
  fun p l e s m args below meth c D cA ad0 A hC hX ad H locs lsA hg hP hD hS hl => lv_ixor hC.1 hC.2.1 hd (K p l e s m args below meth c D cA ad0 A hC hX ad H locs lsA hg hP hD hS hl)
theorem r_ishl {x y : Int32} (hd : decode M.2.1 pc = .ok (.ishl, 1)) (K : Rq Z X M k mc ms w0 nc ns (pc + 1) ls (.int (x <<< (y &&& 31)) :: st) w) : Rq Z X M k mc ms w0 nc ns pc ls (.int y :: .int x :: st) w :=
  fun p l e s m args below meth c D cA ad0 A hC hX ad H locs lsA hg hP hD hS hl => lv_ishl hC.1 hC.2.1 hd (K p l e s m args below meth c D cA ad0 A hC hX ad H locs lsA hg hP hD hS hl)
theorem r_ishr {x y : Int32} (hd : decode M.2.1 pc = .ok (.ishr, 1)) (K : Rq Z X M k mc ms w0 nc ns (pc + 1) ls (.int (x >>> (y &&& 31)) :: st) w) : Rq Z X M k mc ms w0 nc ns pc ls (.int y :: .int x :: st) w :=
  fun p l e s m args below meth c D cA ad0 A hC hX ad H locs lsA hg hP hD hS hl => lv_ishr hC.1 hC.2.1 hd (K p l e s m args below meth c D cA ad0 A hC hX ad H locs lsA hg hP hD hS hl)
theorem r_idiv {x y : Int32} (hd : decode M.2.1 pc = .ok (.idiv, 1)) (hne : ¬ y = 0) (K : Rq Z X M k mc ms w0 nc ns (pc + 1) ls (.int (x / y) :: st) w) : Rq Z X M k mc ms w0 nc ns pc ls (.int y :: .int x :: st) w :=
  fun p l e s m args below meth c D cA ad0 A hC hX ad H locs lsA hg hP hD hS hl => lv_idiv hC.1 hC.2.1 hd hne (K p l e s m args below meth c D cA ad0 A hC hX ad H locs lsA hg hP hD hS hl)
theorem r_irem {x y : Int32} (hd : decode M.2.1 pc = .ok (.irem, 1)) (hne : ¬ y = 0) (K : Rq Z X M k mc ms w0 nc ns (pc + 1) ls (.int (x - x / y * y) :: st) w) : Rq Z X M k mc ms w0 nc ns pc ls (.int y :: .int x :: st) w :=
  fun p l e s m args below meth c D cA ad0 A hC hX ad H locs lsA hg hP hD hS hl => lv_irem hC.1 hC.2.1 hd hne (K p l e s m args below meth c D cA ad0 A hC hX ad H locs lsA hg hP hD hS hl)
theorem r_lor {x y : Int64} (hd : decode M.2.1 pc = .ok (.lor, 1)) (K : Rq Z X M k mc ms w0 nc ns (pc + 1) ls (.long (x ||| y) :: st) w) : Rq Z X M k mc ms w0 nc ns pc ls (.long y :: .long x :: st) w :=
  fun p l e s m args below meth c D cA ad0 A hC hX ad H locs lsA hg hP hD hS hl => lv_lor hC.1 hC.2.1 hd (K p l e s m args below meth c D cA ad0 A hC hX ad H locs lsA hg hP hD hS hl)
theorem r_lshl {x : Int64} {y : Int32} (hd : decode M.2.1 pc = .ok (.lshl, 1)) (K : Rq Z X M k mc ms w0 nc ns (pc + 1) ls (.long (x <<< (y.toInt64 &&& 63)) :: st) w) : Rq Z X M k mc ms w0 nc ns pc ls (.int y :: .long x :: st) w :=
  fun p l e s m args below meth c D cA ad0 A hC hX ad H locs lsA hg hP hD hS hl => lv_lshl hC.1 hC.2.1 hd rfl (K p l e s m args below meth c D cA ad0 A hC hX ad H locs lsA hg hP hD hS hl)
theorem r_lshr {x : Int64} {y : Int32} (hd : decode M.2.1 pc = .ok (.lshr, 1)) (K : Rq Z X M k mc ms w0 nc ns (pc + 1) ls (.long (x >>> (y.toInt64 &&& 63)) :: st) w) : Rq Z X M k mc ms w0 nc ns pc ls (.int y :: .long x :: st) w :=
  fun p l e s m args below meth c D cA ad0 A hC hX ad H locs lsA hg hP hD hS hl => lv_lshr hC.1 hC.2.1 hd rfl (K p l e s m args below meth c D cA ad0 A hC hX ad H locs lsA hg hP hD hS hl)
theorem r_i2l {x : Int32} (hd : decode M.2.1 pc = .ok (.i2l, 1)) (K : Rq Z X M k mc ms w0 nc ns (pc + 1) ls (.long x.toInt64 :: st) w) : Rq Z X M k mc ms w0 nc ns pc ls (.int x :: st) w :=
  fun p l e s m args below meth c D cA ad0 A hC hX ad H locs lsA hg hP hD hS hl => lv_i2l hC.1 hC.2.1 hd rfl (K p l e s m args below meth c D cA ad0 A hC hX ad H locs lsA hg hP hD hS hl)
theorem r_l2i {x : Int64} (hd : decode M.2.1 pc = .ok (.l2i, 1)) (K : Rq Z X M k mc ms w0 nc ns (pc + 1) ls (.int x.toInt32 :: st) w) : Rq Z X M k mc ms w0 nc ns pc ls (.long x :: st) w :=
  fun p l e s m args below meth c D cA ad0 A hC hX ad H locs lsA hg hP hD hS hl => lv_l2i hC.1 hC.2.1 hd rfl (K p l e s m args below meth c D cA ad0 A hC hX ad H locs lsA hg hP hD hS hl)
theorem r_lcmp {x y : Int64} (hd : decode M.2.1 pc = .ok (.lcmp, 1)) (K : Rq Z X M k mc ms w0 nc ns (pc + 1) ls (.int (lg_cmp x y) :: st) w) : Rq Z X M k mc ms w0 nc ns pc ls (.long y :: .long x :: st) w :=
  fun p l e s m args below meth c D cA ad0 A hC hX ad H locs lsA hg hP hD hS hl => W.lcmp hC.1 hC.2.1 hd (K p l e s m args below meth c D cA ad0 A hC hX ad H locs lsA hg hP hD hS hl)
theorem r_dup {v : Value} (hd : decode M.2.1 pc = .ok (.dup, 1)) (hc : v.category = 1) (K : Rq Z X M k mc ms w0 nc ns (pc + 1) ls (v :: v :: st) w) : Rq Z X M k mc ms w0 nc ns pc ls (v :: st) w :=
  fun p l e s m args below meth c D cA ad0 A hC hX ad H locs lsA hg hP hD hS hl => lv_dup hC.1 hC.2.1 hd (by rw [cv_cat]; exact hc) (K p l e s m args below meth c D cA ad0 A hC hX ad H locs lsA hg hP hD hS hl)
theorem r_dup2 {v u : Value} (hd : decode M.2.1 pc = .ok (.dup2, 1)) (hc : v.category = 1) (hc2 : u.category = 1) (K : Rq Z X M k mc ms w0 nc ns (pc + 1) ls (v :: u :: v :: u :: st) w) : Rq Z X M k mc ms w0 nc ns pc ls (v :: u :: st) w :=
  fun p l e s m args below meth c D cA ad0 A hC hX ad H locs lsA hg hP hD hS hl => lv_dup2_11 hC.1 hC.2.1 hd (by rw [cv_cat]; exact hc) (by rw [cv_cat]; exact hc2) (K p l e s m args below meth c D cA ad0 A hC hX ad H locs lsA hg hP hD hS hl)
theorem r_pop {v : Value} (hd : decode M.2.1 pc = .ok (.pop, 1)) (hc : v.category = 1) (K : Rq Z X M k mc ms w0 nc ns (pc + 1) ls (st) w) : Rq Z X M k mc ms w0 nc ns pc ls (v :: st) w :=
  fun p l e s m args below meth c D cA ad0 A hC hX ad H locs lsA hg hP hD hS hl => lv_pop hC.1 hC.2.1 hd (by rw [cv_cat]; exact hc) (K p l e s m args below meth c D cA ad0 A hC hX ad H locs lsA hg hP hD hS hl)
theorem r_if_eq {x : Int32} {off : Int} (tgt : Nat) (hd : decode M.2.1 pc = .ok (.ifCond .eq off, 3)) (ht : (pc : Int) + off = (tgt : Int)) (K1 : x = 0 → Rq Z X M k mc ms w0 nc ns tgt ls st w) (K2 : ¬ x = 0 → Rq Z X M k mc ms w0 nc ns (pc + 3) ls st w) : Rq Z X M k mc ms w0 nc ns pc ls (.int x :: st) w :=
  fun p l e s m args below meth c D cA ad0 A hC hX ad H locs lsA hg hP hD hS hl => lv_if_eq hC.1 hC.2.1 hd ht (fun h => K1 h p l e s m args below meth c D cA ad0 A hC hX ad H locs lsA hg hP hD hS hl) (fun h => K2 h p l e s m args below meth c D cA ad0 A hC hX ad H locs lsA hg hP hD hS hl)
theorem r_if_ne {x : Int32} {off : Int} (tgt : Nat) (hd : decode M.2.1 pc = .ok (.ifCond .ne off, 3)) (ht : (pc : Int) + off = (tgt : Int)) (K1 : ¬ x = 0 → Rq Z X M k mc ms w0 nc ns tgt ls st w) (K2 : x = 0 → Rq Z X M k mc ms w0 nc ns (pc + 3) ls st w) : Rq Z X M k mc ms w0 nc ns pc ls (.int x :: st) w :=
  fun p l e s m args below meth c D cA ad0 A hC hX ad H locs lsA hg hP hD hS hl => lv_if_ne hC.1 hC.2.1 hd ht (fun h => K1 h p l e s m args below meth c D cA ad0 A hC hX ad H locs lsA hg hP hD hS hl) (fun h => K2 h p l e s m args below meth c D cA ad0 A hC hX ad H locs lsA hg hP hD hS hl)
theorem r_if_lt {x : Int32} {off : Int} (tgt : Nat) (hd : decode M.2.1 pc = .ok (.ifCond .lt off, 3)) (ht : (pc : Int) + off = (tgt : Int)) (K1 : x < 0 → Rq Z X M k mc ms w0 nc ns tgt ls st w) (K2 : ¬ x < 0 → Rq Z X M k mc ms w0 nc ns (pc + 3) ls st w) : Rq Z X M k mc ms w0 nc ns pc ls (.int x :: st) w :=
  fun p l e s m args below meth c D cA ad0 A hC hX ad H locs lsA hg hP hD hS hl => lv_if_lt hC.1 hC.2.1 hd ht (fun h => K1 h p l e s m args below meth c D cA ad0 A hC hX ad H locs lsA hg hP hD hS hl) (fun h => K2 h p l e s m args below meth c D cA ad0 A hC hX ad H locs lsA hg hP hD hS hl)
theorem r_if_ge {x : Int32} {off : Int} (tgt : Nat) (hd : decode M.2.1 pc = .ok (.ifCond .ge off, 3)) (ht : (pc : Int) + off = (tgt : Int)) (K1 : 0 ≤ x → Rq Z X M k mc ms w0 nc ns tgt ls st w) (K2 : ¬ 0 ≤ x → Rq Z X M k mc ms w0 nc ns (pc + 3) ls st w) : Rq Z X M k mc ms w0 nc ns pc ls (.int x :: st) w :=
  fun p l e s m args below meth c D cA ad0 A hC hX ad H locs lsA hg hP hD hS hl => lv_if_ge hC.1 hC.2.1 hd ht (fun h => K1 h p l e s m args below meth c D cA ad0 A hC hX ad H locs lsA hg hP hD hS hl) (fun h => K2 h p l e s m args below meth c D cA ad0 A hC hX ad H locs lsA hg hP hD hS hl)
theorem r_if_gt {x : Int32} {off : Int} (tgt : Nat) (hd : decode M.2.1 pc = .ok (.ifCond .gt off, 3)) (ht : (pc : Int) + off = (tgt : Int)) (K1 : 0 < x → Rq Z X M k mc ms w0 nc ns tgt ls st w) (K2 : ¬ 0 < x → Rq Z X M k mc ms w0 nc ns (pc + 3) ls st w) : Rq Z X M k mc ms w0 nc ns pc ls (.int x :: st) w :=
  fun p l e s m args below meth c D cA ad0 A hC hX ad H locs lsA hg hP hD hS hl => lv_if_gt hC.1 hC.2.1 hd ht (fun h => K1 h p l e s m args below meth c D cA ad0 A hC hX ad H locs lsA hg hP hD hS hl) (fun h => K2 h p l e s m args below meth c D cA ad0 A hC hX ad H locs lsA hg hP hD hS hl)
theorem r_if_le {x : Int32} {off : Int} (tgt : Nat) (hd : decode M.2.1 pc = .ok (.ifCond .le off, 3)) (ht : (pc : Int) + off = (tgt : Int)) (K1 : x ≤ 0 → Rq Z X M k mc ms w0 nc ns tgt ls st w) (K2 : ¬ x ≤ 0 → Rq Z X M k mc ms w0 nc ns (pc + 3) ls st w) : Rq Z X M k mc ms w0 nc ns pc ls (.int x :: st) w :=
  fun p l e s m args below meth c D cA ad0 A hC hX ad H locs lsA hg hP hD hS hl => lv_if_le hC.1 hC.2.1 hd ht (fun h => K1 h p l e s m args below meth c D cA ad0 A hC hX ad H locs lsA hg hP hD hS hl) (fun h => K2 h p l e s m args below meth c D cA ad0 A hC hX ad H locs lsA hg hP hD hS hl)
theorem r_icmp_eq {x y : Int32} {off : Int} (tgt : Nat) (hd : decode M.2.1 pc = .ok (.if_icmp .eq off, 3)) (ht : (pc : Int) + off = (tgt : Int)) (K1 : x = y → Rq Z X M k mc ms w0 nc ns tgt ls st w) (K2 : ¬ x = y → Rq Z X M k mc ms w0 nc ns (pc + 3) ls st w) : Rq Z X M k mc ms w0 nc ns pc ls (.int y :: .int x :: st) w :=
  fun p l e s m args below meth c D cA ad0 A hC hX ad H locs lsA hg hP hD hS hl => lv_icmp_eq hC.1 hC.2.1 hd ht (fun h => K1 h p l e s m args below meth c D cA ad0 A hC hX ad H locs lsA hg hP hD hS hl) (fun h => K2 h p l e s m args below meth c D cA ad0 A hC hX ad H locs lsA hg hP hD hS hl)
theorem r_icmp_ne {x y : Int32} {off : Int} (tgt : Nat) (hd : decode M.2.1 pc = .ok (.if_icmp .ne off, 3)) (ht : (pc : Int) + off = (tgt : Int)) (K1 : ¬ x = y → Rq Z X M k mc ms w0 nc ns tgt ls st w) (K2 : x = y → Rq Z X M k mc ms w0 nc ns (pc + 3) ls st w) : Rq Z X M k mc ms w0 nc ns pc ls (.int y :: .int x :: st) w :=
  fun p l e s m args below meth c D cA ad0 A hC hX ad H locs lsA hg hP hD hS hl => lv_icmp_ne hC.1 hC.2.1 hd ht (fun h => K1 h p l e s m args below meth c D cA ad0 A hC hX ad H locs lsA hg hP hD hS hl) (fun h => K2 h p l e s m args below meth c D cA ad0 A hC hX ad H locs lsA hg hP hD hS hl)
theorem r_icmp_lt {x y : Int32} {off : Int} (tgt : Nat) (hd : decode M.2.1 pc = .ok (.if_icmp .lt off, 3)) (ht : (pc : Int) + off = (tgt : Int)) (K1 : x < y → Rq Z X M k mc ms w0 nc ns tgt ls st w) (K2 : ¬ x < y → Rq Z X M k mc ms w0 nc ns (pc + 3) ls st w) : Rq Z X M k mc ms w0 nc ns pc ls (.int y :: .int x :: st) w :=
  fun p l e s m args below meth c D cA ad0 A hC hX ad H locs lsA hg hP hD hS hl => lv_icmp_lt hC.1 hC.2.1 hd ht (fun h => K1 h p l e s m args below meth c D cA ad0 A hC hX ad H locs lsA hg hP hD hS hl) (fun h => K2 h p l e s m args below meth c D cA ad0 A hC hX ad H locs lsA hg hP hD hS hl)
theorem r_icmp_ge {x y : Int32} {off : Int} (tgt : Nat) (hd : decode M.2.1 pc = .ok (.if_icmp .ge off, 3)) (ht : (pc : Int) + off = (tgt : Int)) (K1 : y ≤ x → Rq Z X M k mc ms w0 nc ns tgt ls st w) (K2 : ¬ y ≤ x → Rq Z X M k mc ms w0 nc ns (pc + 3) ls st w) : Rq Z X M k mc ms w0 nc ns pc ls (.int y :: .int x :: st) w :=
  fun p l e s m args below meth c D cA ad0 A hC hX ad H locs lsA hg hP hD hS hl => lv_icmp_ge hC.1 hC.2.1 hd ht (fun h => K1 h p l e s m args below meth c D cA ad0 A hC hX ad H locs lsA hg hP hD hS hl) (fun h => K2 h p l e s m args below meth c D cA ad0 A hC hX ad H locs lsA hg hP hD hS hl)
theorem r_icmp_gt {x y : Int32} {off : Int} (tgt : Nat) (hd : decode M.2.1 pc = .ok (.if_icmp .gt off, 3)) (ht : (pc : Int) + off = (tgt : Int)) (K1 : y < x → Rq Z X M k mc ms w0 nc ns tgt ls st w) (K2 : ¬ y < x → Rq Z X M k mc ms w0 nc ns (pc + 3) ls st w) : Rq Z X M k mc ms w0 nc ns pc ls (.int y :: .int x :: st) w :=
  fun p l e s m args below meth c D cA ad0 A hC hX ad H locs lsA hg hP hD hS hl => lv_icmp_gt hC.1 hC.2.1 hd ht (fun h => K1 h p l e s m args below meth c D cA ad0 A hC hX ad H locs lsA hg hP hD hS hl) (fun h => K2 h p l e s m args below meth c D cA ad0 A hC hX ad H locs lsA hg hP hD hS hl)
theorem r_icmp_le {x y : Int32} {off : Int} (tgt : Nat) (hd : decode M.2.1 pc = .ok (.if_icmp .le off, 3)) (ht : (pc : Int) + off = (tgt : Int)) (K1 : x ≤ y → Rq Z X M k mc ms w0 nc ns tgt ls st w) (K2 : ¬ x ≤ y → Rq Z X M k mc ms w0 nc ns (pc + 3) ls st w) : Rq Z X M k mc ms w0 nc ns pc ls (.int y :: .int x :: st) w :=
  fun p l e s m args below meth c D cA ad0 A hC hX ad H locs lsA hg hP hD hS hl => lv_icmp_le hC.1 hC.2.1 hd ht (fun h => K1 h p l e s m args below meth c D cA ad0 A hC hX ad H locs lsA hg hP hD hS hl) (fun h => K2 h p l e s m args below meth c D cA ad0 A hC hX ad H locs lsA hg hP hD hS hl)
theorem r_goto {off : Int} (tgt : Nat) (hd : decode M.2.1 pc = .ok (.goto off, 3)) (ht : (pc : Int) + off = (tgt : Int)) (K : Rq Z X M k mc ms w0 nc ns tgt ls st w) : Rq Z X M k mc ms w0 nc ns pc ls st w :=
  fun p l e s m args below meth c D cA ad0 A hC hX ad H locs lsA hg hP hD hS hl => lv_goto hC.1 hC.2.1 hd ht (K p l e s m args below meth c D cA ad0 A hC hX ad H locs lsA hg hP hD hS hl)
theorem r_tabIn {dflt lo hi : Int} {offs : Array Int} {len : Nat} {x : Int32} {off : Int} (tgt : Nat) (hd : decode M.2.1 pc = .ok (.tableswitch dflt lo hi offs, len)) (h1 : ¬ x.toInt < lo) (h2 : ¬ hi < x.toInt) (ho : offs[(x.toInt - lo).toNat]? = some off) (ht : (pc : Int) + off = (tgt : Int)) (K : Rq Z X M k mc ms w0 nc ns tgt ls st w) : Rq Z X M k mc ms w0 nc ns pc ls (.int x :: st) w :=
  fun p l e s m args below meth c D cA ad0 A hC hX ad H locs lsA hg hP hD hS hl => lv_tableIn hC.1 hC.2.1 hd h1 h2 ho ht (K p l e s m args below meth c D cA ad0 A hC hX ad H locs lsA hg hP hD hS hl)
theorem r_tabOut {dflt lo hi : Int} {offs : Array Int} {len : Nat} {x : Int32} (tgt : Nat) (hd : decode M.2.1 pc = .ok (.tableswitch dflt lo hi offs, len)) (h : x.toInt < lo ∨ hi < x.toInt) (ht : (pc : Int) + dflt = (tgt : Int)) (K : Rq Z X M k mc ms w0 nc ns tgt ls st w) : Rq Z X M k mc ms w0 nc ns pc ls (.int x :: st) w :=
  fun p l e s m args below meth c D cA ad0 A hC hX ad H locs lsA hg hP hD hS hl => lv_tableOut hC.1 hC.2.1 hd h ht (K p l e s m args below meth c D cA ad0 A hC hX ad H locs lsA hg hP hD hS hl)
/-- fewer locals known -/
theorem r_drop (h : lsubs ls' ls) (K : Rq Z X M k mc ms w0 nc ns pc ls' st w) : Rq Z X M k mc ms w0 nc ns pc ls st w :=
  fun p l e s m args below meth c D cA ad0 A hC hX ad H locs lsA hg hP hD hS hl => K p l e s m args below meth c D cA ad0 A hC hX ad H locs lsA hg hP hD hS (lv_mono hl (fun q hq => lsub_mem (lsubs_ok _ _ h) hq))
theorem r_get {idx ci j q : Nat} {fs : List Value} {v : Value} (hd : decode M.2.1 pc = .ok (.getfield idx, 3)) (hF : FL M.1.cls idx ci j) (hw : wg w q = some (.inr (ci, fs))) (hv : fs[j]? = some v) (K : Rq Z X M k mc ms w0 nc ns (pc + 3) ls (v :: st) w) : Rq Z X M k mc ms w0 nc ns pc ls (.ref q :: st) w := by
  intro p l e s m args below meth c D cA ad0 A hC hX ad H locs lsA hg hP hD hS hl
  have K := (K p l e s m args below meth c D cA ad0 A hC hX ad H locs lsA hg hP hD hS hl)
  obtain ⟨hx, hb, hml, hrt, hlk, hnm, hown, hts, hK, hA, hSt⟩ := hC
  obtain ⟨q0, hq, -⟩ := cw_at (ad := ad) (cA := cA) hw
  obtain ⟨hci, hj, hlk⟩ := hF
  obtain ⟨hcl, hin, -, -⟩ := cl_at ci hci
  have hv' : (fs.map (cv ad))[j]? = some (cv ad v) := by rw [List.getElem?_map, hv]; rfl
  rcases hlk with hlk | ⟨host, hlk⟩
  · exact va_get hx hb hts hin hown hK hP q0 hq hcl j hj (hts _ hlk) (fun _ h9 => h9) hv' hd K
  · exact va_getN hx hb hts hin hown hK hP q0 hq hcl j hj ((hSt.2.2.1.2.1 _ hlk).use (ns_tab hlk)) (fun _ h9 => h9) hv' hd K
theorem r_put {idx ci j q : Nat} {fs : List Value} {v : Value} (hd : decode M.2.1 pc = .ok (.putfield idx, 3)) (hF : FL M.1.cls idx ci j) (hfin : (clT ci j).2.2.2 = false) (hw : wg w q = some (.inr (ci, fs))) (hj2 : j < fs.length) (hn : ∀ ad, narrow (clY ci j) (cv ad v) = cv ad v) (hft : ∀ ad, fits (clY ci j) (cv ad v) = true) (h2 : wput w q (.inr (ci, fs.set j v)) = w2) (K : Rq Z X M k mc ms w0 nc ns (pc + 3) ls st w2) : Rq Z X M k mc ms w0 nc ns pc ls (v :: .ref q :: st) w := by
  intro p l e s m args below meth c D cA ad0 A hC hX ad H locs lsA hg hP hD hS hl
  have hC0 := hC
  obtain ⟨hx, hb, hml, hrt, hlk, hnm, hown, hts, hK, hA, hSt⟩ := hC
  obtain ⟨q0, hq, hs⟩ := cw_at (ad := ad) (cA := cA) hw
  obtain ⟨hci, hj, hlk⟩ := hF
  obtain ⟨hcl, hin, hty, hnames⟩ := cl_at ci hci
  have hs2 : (cw ad cA w).set q0 (ad q, .inr (ci, (fs.map (cv ad)).set j (cv ad v))) = cw ad cA w2 := by
    rw [← h2, ← hs]
    simp only [ce, List.map_set]
  rcases hlk with hlk | ⟨host, hlk⟩
  · refine va_put hx hb hts hin (clY ci) hty hnames hown hK hP hD hS q0 hq hcl j hj (hts _ hlk) (fun _ h9 => h9) hfin (hty j hj) (hn ad) (hft ad) (by simpa using hj2) hd (fun H1 locs1 hP1 hD1 hS1 => ?_)
    rw [hs2] at hP1 hD1
    exact K p l e s m args below meth c D cA ad0 A hC0 hX ad H1 locs1 lsA hg hP1 hD1 hS1 hl
  · refine va_putN hx hb hts hin (clY ci) hty hnames hown hK hP hD hS q0 hq hcl j hj ((hSt.2.2.1.2.1 _ hlk).use (ns_tab hlk)) (fun _ h9 => h9) hfin (hty j hj) (hn ad) (hft ad) (by simpa using hj2) hd (fun H1 locs1 hP1 hD1 hS1 => ?_)
    rw [hs2] at hP1 hD1
    exact K p l e s m args below meth c D cA ad0 A hC0 hX ad H1 locs1 lsA hg hP1 hD1 hS1 hl
/-- a final field, in its class's constructor -/
theorem r_putF {idx ci j q : Nat} {fs : List Value} {v : Value} (hd : decode M.2.1 pc = .ok (.putfield idx, 3)) (hF : ci < 8 ∧ j < clN ci ∧ Cond.fieldLink M.1.cls idx (clT ci j).1 (clT ci j).2.1 (clT ci j).2.2.1 ∈ lw_gd) (hfin : (clT ci j).2.2.2 = true) (hini : M.1.name = "<init>") (hdec : (clT ci j).1 = M.1.cls) (hw : wg w q = some (.inr (ci, fs))) (hj2 : j < fs.length) (hn : ∀ ad, narrow (clY ci j) (cv ad v) = cv ad v) (hft : ∀ ad, fits (clY ci j) (cv ad v) = true) (h2 : wput w q (.inr (ci, fs.set j v)) = w2) (K : Rq Z X M k mc ms w0 nc ns (pc + 3) ls st w2) : Rq Z X M k mc ms w0 nc ns pc ls (v :: .ref q :: st) w := by
  intro p l e s m args below meth c D cA ad0 A hC hX ad H locs lsA hg hP hD hS hl
  have hC0 := hC
  obtain ⟨hx, hb, hml, hrt, hlk, hnm, hown, hts, hK, hA, hSt⟩ := hC
  obtain ⟨q0, hq, hs⟩ := cw_at (ad := ad) (cA := cA) hw
  obtain ⟨hci, hj, hlk⟩ := hF
  obtain ⟨hcl, hin, hty, hnames⟩ := cl_at ci hci
  have hs2 : (cw ad cA w).set q0 (ad q, .inr (ci, (fs.map (cv ad)).set j (cv ad v))) = cw ad cA w2 := by
    rw [← h2, ← hs]
    simp only [ce, List.map_set]
  refine va_putF hx hb hts hin (clY ci) hty hnames hown hK hP hD hS q0 hq hcl j hj (hts _ hlk) (fun _ h9 => h9) hfin (hnm.trans hini) hdec (hty j hj) (hn ad) (hft ad) (by simpa using hj2) hd (fun H1 locs1 hP1 hD1 hS1 => ?_)
  rw [hs2] at hP1 hD1
  exact K p l e s m args below meth c D cA ad0 A hC0 hX ad H1 locs1 lsA hg hP1 hD1 hS1 hl
theorem r_iald {q n j : Nat} {f : Nat → Int32} {i : Int32} (hd : decode M.2.1 pc = .ok (.iaload, 1)) (hw : wg w q = some (.inl (0, n, .inl f))) (hi : i = nI j) (hj : j < n) (hn : n < 2 ^ 31) (K : Rq Z X M k mc ms w0 nc ns (pc + 1) ls (.int (f j) :: st) w) : Rq Z X M k mc ms w0 nc ns pc ls (.int i :: .ref q :: st) w := by
  subst hi
  intro p l e s m args below meth c D cA ad0 A hC hX ad H locs lsA hg hP hD hS hl
  have K := (K p l e s m args below meth c D cA ad0 A hC hX ad H locs lsA hg hP hD hS hl)
  obtain ⟨hx, hb, hml, hrt, hlk, hnm, hown, hts, hK, hA, hSt⟩ := hC
  obtain ⟨q0, hq, -⟩ := cw_at (ad := ad) (cA := cA) hw
  refine va_iald hx hb hK hP q0 0 hq rfl (vp_in_nI hj hn) hd ?_
  rw [nI_clamp (Nat.lt_trans hj hn)]
  exact K
theorem r_lald {q n j : Nat} {f : Nat → Int64} {i : Int32} (hd : decode M.2.1 pc = .ok (.laload, 1)) (hw : wg w q = some (.inl (1, n, .inr (.inl f)))) (hi : i = nI j) (hj : j < n) (hn : n < 2 ^ 31) (K : Rq Z X M k mc ms w0 nc ns (pc + 1) ls (.long (f j) :: st) w) : Rq Z X M k mc ms w0 nc ns pc ls (.int i :: .ref q :: st) w := by
  subst hi
  intro p l e s m args below meth c D cA ad0 A hC hX ad H locs lsA hg hP hD hS hl
  have K := (K p l e s m args below meth c D cA ad0 A hC hX ad H locs lsA hg hP hD hS hl)
  obtain ⟨hx, hb, hml, hrt, hlk, hnm, hown, hts, hK, hA, hSt⟩ := hC
  obtain ⟨q0, hq, -⟩ := cw_at (ad := ad) (cA := cA) hw
  refine va_lald hx hb hK hP q0 1 hq rfl (vp_in_nI hj hn) hd ?_
  rw [nI_clamp (Nat.lt_trans hj hn)]
  exact K
theorem r_zald {q n j : Nat} {f : Nat → Int32} {i : Int32} (hd : decode M.2.1 pc = .ok (.baload, 1)) (hw : wg w q = some (.inl (2, n, .inl f))) (hi : i = nI j) (hj : j < n) (hn : n < 2 ^ 31) (K : Rq Z X M k mc ms w0 nc ns (pc + 1) ls (.int (f j) :: st) w) : Rq Z X M k mc ms w0 nc ns pc ls (.int i :: .ref q :: st) w := by
  subst hi
  intro p l e s m args below meth c D cA ad0 A hC hX ad H locs lsA hg hP hD hS hl
  have K := (K p l e s m args below meth c D cA ad0 A hC hX ad H locs lsA hg hP hD hS hl)
  obtain ⟨hx, hb, hml, hrt, hlk, hnm, hown, hts, hK, hA, hSt⟩ := hC
  obtain ⟨q0, hq, -⟩ := cw_at (ad := ad) (cA := cA) hw
  refine va_zald hx hb hK hP q0 2 hq rfl (vp_in_nI hj hn) hd ?_
  rw [nI_clamp (Nat.lt_trans hj hn)]
  exact K
theorem r_iast {q n j : Nat} {f : Nat → Int32} {i : Int32} {x : Int32} (hd : decode M.2.1 pc = .ok (.iastore, 1)) (hw : wg w q = some (.inl (0, n, .inl f))) (hi : i = nI j) (hj : j < n) (hn : n < 2 ^ 31) (h2 : wput w q (.inl (0, n, .inl (upd f j x))) = w2) (K : Rq Z X M k mc ms w0 nc ns (pc + 1) ls st w2) : Rq Z X M k mc ms w0 nc ns pc ls (.int x :: .int i :: .ref q :: st) w := by
  subst hi
  intro p l e s m args below meth c D cA ad0 A hC hX ad H locs lsA hg hP hD hS hl
  have hC0 := hC
  obtain ⟨hx, hb, hml, hrt, hlk, hnm, hown, hts, hK, hA, hSt⟩ := hC
  obtain ⟨q0, hq, hs⟩ := cw_at (ad := ad) (cA := cA) hw
  refine va_iast hx hb hK hP hD hS q0 0 hq rfl (vp_in_nI hj hn) hd (fun H1 locs1 hP1 hD1 hS1 => ?_)
  rw [nI_clamp (Nat.lt_trans hj hn)] at hP1 hD1
  have hs2 := hs (.inl (0, n, .inl (upd f j x)))
  rw [h2] at hs2
  have hs3 : (cw ad cA w).set q0 (ad q, .inl (cA 0, n, .inl (upd f j x))) = cw ad cA w2 := hs2
  rw [hs3] at hP1 hD1
  exact K p l e s m args below meth c D cA ad0 A hC0 hX ad H1 locs1 lsA hg hP1 hD1 hS1 hl
theorem r_last {q n j : Nat} {f : Nat → Int64} {i : Int32} {x : Int64} (hd : decode M.2.1 pc = .ok (.lastore, 1)) (hw : wg w q = some (.inl (1, n, .inr (.inl f)))) (hi : i = nI j) (hj : j < n) (hn : n < 2 ^ 31) (h2 : wput w q (.inl (1, n, .inr (.inl (vp_updL f j x)))) = w2) (K : Rq Z X M k mc ms w0 nc ns (pc + 1) ls st w2) : Rq Z X M k mc ms w0 nc ns pc ls (.long x :: .int i :: .ref q :: st) w := by
  subst hi
  intro p l e s m args below meth c D cA ad0 A hC hX ad H locs lsA hg hP hD hS hl
  have hC0 := hC
  obtain ⟨hx, hb, hml, hrt, hlk, hnm, hown, hts, hK, hA, hSt⟩ := hC
  obtain ⟨q0, hq, hs⟩ := cw_at (ad := ad) (cA := cA) hw
  refine va_last hx hb hK hP hD hS q0 1 hq rfl (vp_in_nI hj hn) hd (fun H1 locs1 hP1 hD1 hS1 => ?_)
  rw [nI_clamp (Nat.lt_trans hj hn)] at hP1 hD1
  have hs2 := hs (.inl (1, n, .inr (.inl (vp_updL f j x))))
  rw [h2] at hs2
  have hs3 : (cw ad cA w).set q0 (ad q, .inl (cA 1, n, .inr (.inl (vp_updL f j x)))) = cw ad cA w2 := hs2
  rw [hs3] at hP1 hD1
  exact K p l e s m args below meth c D cA ad0 A hC0 hX ad H1 locs1 lsA hg hP1 hD1 hS1 hl
theorem r_zast {q n j : Nat} {f : Nat → Int32} {i : Int32} {x : Int32} (hd : decode M.2.1 pc = .ok (.bastore, 1)) (hw : wg w q = some (.inl (2, n, .inl f))) (hi : i = nI j) (hj : j < n) (hn : n < 2 ^ 31) (h2 : wput w q (.inl (2, n, .inl (upd f j (vp_nar .boolean x)))) = w2) (K : Rq Z X M k mc ms w0 nc ns (pc + 1) ls st w2) : Rq Z X M k mc ms w0 nc ns pc ls (.int x :: .int i :: .ref q :: st) w := by
  subst hi
  intro p l e s m args below meth c D cA ad0 A hC hX ad H locs lsA hg hP hD hS hl
  have hC0 := hC
  obtain ⟨hx, hb, hml, hrt, hlk, hnm, hown, hts, hK, hA, hSt⟩ := hC
  obtain ⟨q0, hq, hs⟩ := cw_at (ad := ad) (cA := cA) hw
  refine va_zast hx hb hK hP hD hS q0 2 hq rfl (vp_in_nI hj hn) hd (fun H1 locs1 hP1 hD1 hS1 => ?_)
  rw [nI_clamp (Nat.lt_trans hj hn)] at hP1 hD1
  have hs2 := hs (.inl (2, n, .inl (upd f j (vp_nar .boolean x))))
  rw [h2] at hs2
  have hs3 : (cw ad cA w).set q0 (ad q, .inl (cA 2, n, .inl (upd f j (vp_nar .boolean x)))) = cw ad cA w2 := hs2
  rw [hs3] at hP1 hD1
  exact K p l e s m args below meth c D cA ad0 A hC0 hX ad H1 locs1 lsA hg hP1 hD1 hS1 hl
theorem r_alen {q ti : Nat} {x : vp_A} {v : Int32} (hd : decode M.2.1 pc = .ok (.arraylength, 1)) (hw : wg w q = some (.inl (ti, x))) (hti : ti < 4) (hv : Int32.ofNat x.1 = v) (K : Rq Z X M k mc ms w0 nc ns (pc + 1) ls (.int v :: st) w) : Rq Z X M k mc ms w0 nc ns pc ls (.ref q :: st) w := by
  intro p l e s m args below meth c D cA ad0 A hC hX ad H locs lsA hg hP hD hS hl
  have K := (K p l e s m args below meth c D cA ad0 A hC hX ad H locs lsA hg hP hD hS hl)
  obtain ⟨hx, hb, hml, hrt, hlk, hnm, hown, hts, hK, hA, hSt⟩ := hC
  obtain ⟨q0, hq, -⟩ := cw_at (ad := ad) (cA := cA) hw
  have hq' : (cw ad cA w)[q0]? = some (ad q, .inl (cA ti, ca ad x)) := hq
  match ti, hti, hq' with
  | 0, _, hq' => exact va_alen hx hb hK hP q0 0 hq' rfl hv hd K
  | 1, _, hq' => exact va_alen hx hb hK hP q0 1 hq' rfl hv hd K
  | 2, _, hq' => exact va_alen hx hb hK hP q0 2 hq' rfl hv hd K
  | 3, _, hq' => exact va_alen hx hb hK hP q0 3 hq' rfl hv hd K
/-- a constant array, of ints or of chars -/
theorem r_cald {j : Nat} {q : String × String × String × FieldType × List Int32} {i v : Int32} (a : Nat) (hq : zt_arr[a]? = some q) (hd : decode M.2.1 pc = .ok (.iaload, 1) ∧ q.2.2.2.1 = .int ∨ decode M.2.1 pc = .ok (.caload, 1) ∧ q.2.2.2.1 = .char) (hi : i = nI j) (hj : j < q.2.2.2.2.length) (hn : q.2.2.2.2.length < 2 ^ 31) (hv : q.2.2.2.2.getD j 0 = v) (K : Rq Z X M k mc ms w0 nc ns (pc + 1) ls (.int v :: st) w) : Rq Z X M k mc ms w0 nc ns pc ls (.int i :: .ref (1000 + a) :: st) w := by
  subst hi
  intro p l e s m args below meth c D cA ad0 A hC hX ad H locs lsA hg hP hD hS hl
  have K := (K p l e s m args below meth c D cA ad0 A hC hX ad H locs lsA hg hP hD hS hl)
  obtain ⟨hx, hb, hml, hrt, hlk, hnm, hown, hts, hK, hA, hSt⟩ := hC
  have hT := (hSt.1 a q hq).2
  rw [← hg.2 _ (Or.inr (Nat.le_add_right _ _))] at hT
  rcases hd with ⟨hd, ht⟩ | ⟨hd, ht⟩
  · rw [ht] at hT
    exact va_ti hx hb hT hS (vp_in_nI hj hn) (v := .int v) (by rw [nI_clamp (Nat.lt_trans hj hn), hv]) hd K
  · rw [ht] at hT
    exact va_tc hx hb hT hS (vp_in_nI hj hn) (v := .int v) (by rw [nI_clamp (Nat.lt_trans hj hn), hv]) hd K
end RR
end
section
/-! ===== entry, ends, calls ===== -/
theorem lsa_mem (ad : Nat → Nat) : ∀ (as : List Value) (i : Nat) (q : Nat × Value), q ∈ lsl ad i (lsa as) → q ∈ lv_args i (as.map (cv ad))
  | [], i, q, h => by simp [lsa, lsl] at h
  | .long x :: l, i, q, h => by
    simp only [lsa, lsl, List.mem_cons] at h
    simp only [List.map, lv_args, List.mem_cons]
    rcases h with h | h
    · exact Or.inl h
    · exact Or.inr (lsa_mem ad l (i + 2) q h)
  | .double x :: l, i, q, h => by
    simp only [lsa, lsl, List.mem_cons] at h
    simp only [List.map, lv_args, List.mem_cons]
    rcases h with h | h
    · exact Or.inl h
    · exact Or.inr (lsa_mem ad l (i + 2) q h)
  | .int x :: l, i, q, h => by
    simp only [lsa, lsl, List.mem_cons] at h
    simp only [List.map, lv_args, List.mem_cons]
    rcases h with h | h
    · exact Or.inl h
    · exact Or.inr (lsa_mem ad l (i + 1) q h)
  | .float x :: l, i, q, h => by
    simp only [lsa, lsl, List.mem_cons] at h
    simp only [List.map, lv_args, List.mem_cons]
    rcases h with h | h
    · exact Or.inl h
    · exact Or.inr (lsa_mem ad l (i + 1) q h)
  | .null :: l, i, q, h => by
    simp only [lsa, lsl, List.mem_cons] at h
    simp only [List.map, lv_args, List.mem_cons]
    rcases h with h | h
    · exact Or.inl h
    · exact Or.inr (lsa_mem ad l (i + 1) q h)
  | .ref x :: l, i, q, h => by
    simp only [lsa, lsl, List.mem_cons] at h
    simp only [List.map, lv_args, List.mem_cons]
    rcases h with h | h
    · exact Or.inl h
    · exact Or.inr (lsa_mem ad l (i + 1) q h)
  | .retAddr x :: l, i, q, h => by
    simp only [lsa, lsl, List.mem_cons] at h
    simp only [List.map, lv_args, List.mem_cons]
    rcases h with h | h
    · exact Or.inl h
    · exact Or.inr (lsa_mem ad l (i + 1) q h)
def lpad (n : Nat) (l : List (Option Value)) : List (Option Value) := l ++ List.replicate (n - l.length) none
theorem lpad_mem {ad : Nat → Nat} {n : Nat} {l : List (Option Value)} {q : Nat × Value} (h : q ∈ lsl ad 0 (lpad n l)) : q ∈ lsl ad 0 l := by
  obtain ⟨j, v, h1, rfl⟩ := (lsl_mem ad _ 0 _).mp h
  refine (lsl_mem ad _ 0 _).mpr ⟨j, v, ?_, rfl⟩
  unfold lpad at h1
  by_cases hj : j < l.length
  · rwa [List.getElem?_append_left hj] at h1
  · rw [List.getElem?_append_right (by omega)] at h1
    have h2 := List.mem_of_getElem? h1
    have h3 := List.eq_of_mem_replicate h2
    cases h3
def lsaLen : List Value → Nat
  | [] => 0
  | v :: l => v.category + lsaLen l
theorem lsaLen_sl (ad : Nat → Nat) : ∀ as : List Value, (lg_sl (as.map (cv ad))).length = lsaLen as
  | [] => rfl
  | v :: l => by
    have ih := lsaLen_sl ad l
    unfold lg_sl at ih ⊢
    rw [List.map_cons, List.flatMap_cons, List.length_append, ih, lsaLen, cv_cat]
    rcases lv_cat v with h | h <;> simp [h]
/-- from the walk of the body to the method -/
theorem sem_of {M : MI} {k mc ms : Nat} {as : List Value} {w w' : WD} {r : Option Value} {ls : List (Option Value)} (hpl : plainName M.1.cls = true) (hlen : lsaLen as ≤ M.2.2.1) (hls : lpad M.2.2.1 (lsa as) = ls) (K : Rn M k mc ms w r w' 0 0 0 ls [] w) : Sem M k mc ms as w r w' := by
  intro l D cA ad sz
  refine Met.ofW (cc := M.2.1) (maxL := M.2.2.1) (ret := M.2.2.2) hpl rfl ?_
  intro p e s m args below meth c s₁ B hml hv
  obtain ⟨rfl, hsz, hP, hK, hD0, hSt⟩ := hv
  have hts := atoms_spec (ws := Cond.code M.1 M.2.1 M.2.2.1 M.2.2.2 :: lw_gd) B.pre
  have hown : s.vm.findClass M.1.cls = some m.cls := findClass_of_methodNamed B.named
  have hin : meth.name = M.1.name := (name_of_methodNamed B.named B.method).1
  subst hsz
  have hD := hD0.self (sz := s.heap.size)
  have hl := lv_entry (as.map (cv ad)) (n := M.2.2.1) (by rw [lsaLen_sl]; exact hlen)
  rw [lg_entry_eq]
  exact K p l e s m _ below meth c D cA ad (va_A (cw ad cA w) s.heap.size) ⟨B.exec, B.bytes, hml, B.returns, B.notSynchronized, hin, hown, fun w h => hts w (List.mem_cons_of_mem _ h), hK, fun q h => Or.inr h, hSt⟩ trivial ad s.heap [] _ ⟨fun _ => rfl, fun _ _ => rfl⟩ hP hD va_S.rf (by
    refine lv_mono hl (fun q hq => ?_)
    rw [← hls] at hq
    exact lsa_mem ad as 0 q (lpad_mem hq))
section RE
variable {M : MI} {k mc ms : Nat} {w0 : WD} {pc : Nat} {ls : List (Option Value)} {w w' : WD} {r : Option Value}
theorem r_iret {v : Int32} (hd : decode M.2.1 pc = .ok (.ireturn, 1)) (hr : M.2.2.2 = some .int) (hv : r = some (.int v)) (hw : w = w') : Rn M k mc ms w0 r w' mc ms pc ls [.int v] w := by
  subst hv; subst hw
  intro p l e s m args below meth c D cA ad0 A hC hX ad H locs lsA hg hP hD hS hl
  have hlocks := hC.2.2.2.2.1
  exact W.iret hC.1 hC.2.1 (hC.2.2.2.1.trans hr) (fun t ht hW => ⟨ad, hg, rfl, by rw [ht]; exact hP, hD, hS.F ht⟩) hS.2.2 hd
theorem r_zret {v : Int32} {ty : FieldType} (hd : decode M.2.1 pc = .ok (.ireturn, 1)) (hr : M.2.2.2 = some ty) (hn : narrow ty (.int v) = .int v) (hv : r = some (.int v)) (hw : w = w') : Rn M k mc ms w0 r w' mc ms pc ls [.int v] w := by
  subst hv; subst hw
  intro p l e s m args below meth c D cA ad0 A hC hX ad H locs lsA hg hP hD hS hl
  have hlocks := hC.2.2.2.2.1
  exact W.zret hC.1 hC.2.1 (hC.2.2.2.1.trans hr) hn (fun t ht hW => ⟨ad, hg, rfl, by rw [ht]; exact hP, hD, hS.F ht⟩) hS.2.2 hd
theorem r_lret {v : Int64} (hd : decode M.2.1 pc = .ok (.lreturn, 1)) (hr : M.2.2.2 = some .long) (hv : r = some (.long v)) (hw : w = w') : Rn M k mc ms w0 r w' mc ms pc ls [.long v] w := by
  subst hv; subst hw
  intro p l e s m args below meth c D cA ad0 A hC hX ad H locs lsA hg hP hD hS hl
  have hlocks := hC.2.2.2.2.1
  exact W.lret hC.1 hC.2.1 (hC.2.2.2.1.trans hr) (fun t ht hW => ⟨ad, hg, rfl, by rw [ht]; exact hP, hD, hS.F ht⟩) hS.2.2 hd
theorem r_vret (hd : decode M.2.1 pc = .ok (.return_, 1)) (hr : M.2.2.2 = none) (hv : r = none) (hw : w = w') : Rn M k mc ms w0 r w' mc ms pc ls [] w := by
  subst hv; subst hw
  intro p l e s m args below meth c D cA ad0 A hC hX ad H locs lsA hg hP hD hS hl
  have hlocks := hC.2.2.2.2.1
  exact W.vret hC.1 hC.2.1 (hC.2.2.2.1.trans hr) (fun t ht hW => ⟨ad, hg, rfl, by rw [ht]; exact hP, hD, hS.F ht⟩) hS.2.2 hd
end RE
/-! calls that make nothing -/
def Fb (D : va_G) (cA : Nat → ClassId) (ad : Nat → Nat) (as : List Value) (w : WD) (sz : Nat) : Array Value → State → Prop := va_Pc (as.map (cv ad)) (fun U => U.heap.size = sz ∧ va_P D vwCl (cw ad cA w) U.heap ∧ va_K D vwCl (tyl cA) U ∧ va_D (fun _ => True) (cw ad cA w) ∧ St ad (va_A (cw ad cA w) sz) U U.heap)
theorem Fb_blind {D : va_G} {cA : Nat → ClassId} {ad : Nat → Nat} {as : List Value} {w : WD} {sz : Nat} : FrameBlind (Fb D cA ad as w sz) := by
  intro a U g mk q
  obtain ⟨q0, q1, qP, qK, qD, qS⟩ := q
  exact ⟨q0, q1, qP, va_K.moved (u := U) (U := U.calling g mk a) (Vm.Alike.refl U.vm) qK, qD, St.same (s := U) (U := U.calling g mk a) rfl qS⟩
theorem Fb_of {M : MI} {p : Program} {s : State} {m : MethodId} {args : Array Value} {meth : Method} {c : Code} {D : va_G} {cA : Nat → ClassId} {ad0 ad : Nat → Nat} {A : Nat → Prop} {w0 w : WD} {mc : Nat} {H : Heap} {locs : List Loc} (as : List Value) (hC : Cx M p s m args meth c D cA ad0 A) (hg : Ag mc w0 ad0 ad) (hP : va_P D vwCl (cw ad cA w) H) (hD : va_D A (cw ad cA w)) (hS : va_S A s.heap H locs) :
    (∀ q, va_A (cw ad cA w) H.size q → A q) ∧ ∀ U : State, U.heap = H → s.WarmedH U.vm → Fb D cA ad as w H.size (as.map (cv ad)).toArray U := by
  have hF : ∀ q, va_A (cw ad cA w) H.size q → A q := by
    intro q h
    rcases h with ⟨k, e, h⟩ | h
    · exact hD.2 k (q, e) h
    · exact hC.2.2.2.2.2.2.2.2.2.1 q (Nat.le_trans hS.1 h)
  refine ⟨hF, fun U hU hW => ⟨rfl, by rw [hU], by rw [hU]; exact hP, va_K.moved hW.alike hC.2.2.2.2.2.2.2.2.1, hD.weaken (fun _ _ _ _ => trivial), ?_⟩⟩
  rw [hU]
  have h1 := hC.2.2.2.2.2.2.2.2.2.2
  have h2 : St ad A s s.heap := h1.ag (fun q hq => hg.2 q (Or.inr hq))
  exact ((h2.kept (fun a ha hn => hS.2.1 a ha hn)).narrow hF).warm hW
/-- a method's words, as entry idx of class own names it (n: how many arguments) -/
def ML (own : String) (idx : Nat) (M2 : MI) (n : Nat) : Prop :=
  (Cond.methodLink own idx M2.1 ∈ lw_gd ∨ ∃ host, Cond.methodLinkNest own idx M2.1 host ∈ lw_ns) ∧ Cond.initialized M2.1.cls ∈ lw_gd ∧ Cond.code M2.1 M2.2.1 M2.2.2.1 M2.2.2.2 ∈ lw_gd ∧ (M2.1.cls ≠ "java/lang/invoke/MethodHandle" ∧ M2.1.cls ≠ "java/lang/invoke/VarHandle" ∧ (parseMethodDescriptor M2.1.desc).map (fun d => d.parameters.length) = some n)
def MLV (own : String) (idx : Nat) (M2 : MI) (n ci : Nat) : Prop := ML own idx M2 n ∧ ci < 8 ∧ M2.1.cls = clC ci ∧ Cond.instanceMethod M2.1 ∈ lw_gd ∧ Cond.selects M2.1.cls M2.1 M2.1 ∈ lw_gd
def MLS (own : String) (idx : Nat) (M2 : MI) (n : Nat) : Prop := ML own idx M2 n ∧ Cond.static M2.1 ∈ lw_gd
section RC
variable {Z : ZT} {X : XT} {M : MI} {k mc ms : Nat} {w0 : WD} {nc ns pc : Nat} {ls : List (Option Value)} {st : List Value} {w w2 : WD}
theorem cv_sum (ad : Nat → Nat) : ∀ l : List Value, ((l.map (cv ad)).map fun v => v.category).sum = (l.map fun v => v.category).sum
  | [] => rfl
  | v :: l => by simp only [List.map_cons, List.sum_cons, cv_sum ad l, cv_cat]
/-- behind a call that makes nothing -/
theorem back0 {p : Program} {l : Launch} {e : Env} {s : State} {m : MethodId} {args : Array Value} {below : List Frame} {meth : Method} {c : Code} {D : va_G} {cA : Nat → ClassId} {ad0 ad : Nat → Nat} {A : Nat → Prop} {H : Heap} {locs : List Loc} {lsA : Array Slot} {st0 : List Value} {r : Option Value} {a : Array Value}
    (hC : Cx M p s m args meth c D cA ad0 A) (hX : X args s ad0 A) (hg : Ag mc w0 ad0 ad) (hS : va_S A s.heap H locs) (hl : lv_has lsA M.2.2.1 (lsl ad 0 ls)) (hF : ∀ q, va_A (cw ad cA w) H.size q → A q)
    (hr : va_Run p l e (rmk k mc ms) s m args below meth c H locs nc ns 0 0 (F0 m pc lsA st0) (st.map (cv ad)) (QQ D cA ad 0 w r w2 (va_A (cw ad cA w) H.size) a) (va_A (cw ad cA w) H.size))
    (K : Rq Z X M k mc ms w0 nc ns (pc + 3) ls (r.toList ++ st) w2) : W p l e (rmk k mc ms) s m args below meth c H locs nc ns (Z below args s D cA ad0 A) (F0 m pc lsA st0) := by
  intro T hT X1
  obtain ⟨v, st₀, t, T', L, h0, X', hL, e1, e2, ⟨ad', hg', hv, hP', hD', hz, hk⟩, stp⟩ := hr T hT X1
  have ha : ad' = ad := hg'.1 rfl
  subst ha
  have hv : v = r.map (cv ad') := by cases hv; rfl
  subst hv
  rw [h0] at hz hk
  have hS' : va_S A s.heap T'.heap (locs ++ L) := ⟨Nat.le_trans hS.1 (by rw [e1]; exact hz), fun q h1 h2 => by rw [e1, hk q (Nat.lt_of_lt_of_le h1 hS.1) (fun z => h2 (hF q z))]; exact hS.2.1 q h1 h2, fun q hq => by
      rcases List.mem_append.mp hq with h | h
      · exact hS.2.2 q h
      · exact hF _ (hL q h)⟩
  obtain ⟨t2, a1, b1⟩ := K p l e s m args below meth c D cA ad0 A hC hX ad' T'.heap (locs ++ L) lsA hg (by rw [e1]; exact hP') (hD'.weaken (fun _ _ _ h => hF _ h)) hS' hl T' rfl X'
  refine ⟨t2, stp t2 ?_, b1⟩
  have e3 : (r.map (cv ad')).toList ++ st.map (cv ad') = (r.toList ++ st).map (cv ad') := by cases r <;> simp
  have e4 : ({ F0 m pc lsA st0 with pc := (F0 m pc lsA st0).pc + 3, stack := (r.map (cv ad')).toList ++ st.map (cv ad') } : JFrame) = F0 m (pc + 3) lsA ((r.toList ++ st).map (cv ad')) := by rw [e3]
  rw [e4]
  exact a1
theorem r_callV {idx k2 n ci q : Nat} {M2 : MI} {as : List Value} {fs : List Value} {r : Option Value} (hd : decode M.2.1 pc = .ok (.invokevirtual idx, 3)) (hM : Sem M2 k2 0 0 (.ref q :: as) w r w2) (hL : MLV M.1.cls idx M2 n ci) (hw : wg w q = some (.inr (ci, fs))) (hn : as.length = n) (hk : k2 + 1 ≤ k ∧ M2.2.2.1 ≤ 19) (hnc : nc ≤ mc ∧ ns ≤ ms) (hst : (st.map fun v => v.category).sum ≤ 8) (K : Rq Z X M k mc ms w0 nc ns (pc + 3) ls (r.toList ++ st) w2) : Rq Z X M k mc ms w0 nc ns pc ls (as.reverse ++ .ref q :: st) w := by
  intro p l e s m args below meth c D cA ad0 A hC hX ad H locs lsA hg hP hD hS hl
  obtain ⟨hF, hPc⟩ := Fb_of (.ref q :: as) hC hg hP hD hS
  obtain ⟨⟨hlk, hini, hcode, hdd⟩, hci, hcl, hinst, hsel⟩ := hL
  obtain ⟨hx, hb, hml, hrt, hlocks, hnm, hown, hts, hK, hA, hSt⟩ := id hC
  obtain ⟨q0, hq, -⟩ := cw_at (ad := ad) (cA := cA) hw
  have hcl2 := (cl_at ci hci).1
  have hG : GoodIn lw_gd (Cond.code M2.1 M2.2.1 M2.2.2.1 M2.2.2.2 :: lw_gd) := gd_goodIn _ (fun _ h => h) hcode
  have hRm : (rmk k2 0 0).frames + 1 ≤ (rmk k mc ms).frames ∧ 8 + (M2.2.2.1 + 11) + (rmk k2 0 0).locals ≤ (rmk k mc ms).locals := by
    unfold rmk
    dsimp only
    omega
  have hrecv := va_recv hK hP (ci := ci) (q0 := q0) hcl2 hq
  have hst2 : (as.reverse ++ .ref q :: st).map (cv ad) = (as.map (cv ad)).reverse ++ .ref (ad q) :: st.map (cv ad) := by simp [cv]
  have hsum : ((st.map (cv ad)).map fun v => v.category).sum ≤ 8 := by rw [cv_sum]; exact hst
  rw [hst2]
  have hM' := hM l D cA ad H.size
  refine back0 hC hX hg hS hl hF (r := r) (w2 := w2) (a := (Value.ref (ad q) :: as.map (cv ad)).toArray) ?_ K
  rcases hlk with hlk | ⟨host, hlk⟩
  · exact va_runV (As := as.map (cv ad)) ⟨hx, hb, hml, hown, hts⟩ hM' ⟨callB_of n hts hG rfl rfl rfl (hts _ hini) (hts _ hlk) hdd hRm, hts _ hinst, hts _ hsel⟩ ⟨Fb_blind, by rw [hcl]; exact hrecv, hPc⟩ rfl (by simpa using hn) hl.1 rfl (lv_room hsum) hd ⟨hnc.1, hnc.2⟩
  · exact va_runVN (As := as.map (cv ad)) ⟨hx, hb, hml, hown, hts⟩ hM' ⟨va_cnB n hts hG rfl rfl rfl (hSt.2.2.1.2.1 _ hlk) (hts _ hini) hdd hRm, hts _ hinst, hts _ hsel⟩ ⟨Fb_blind, by rw [hcl]; exact hrecv, hPc⟩ rfl (by simpa using hn) hl.1 rfl (lv_room hsum) hd ⟨hnc.1, hnc.2⟩
theorem r_callS {idx k2 n : Nat} {M2 : MI} {as : List Value} {r : Option Value} (hd : decode M.2.1 pc = .ok (.invokestatic idx, 3)) (hM : Sem M2 k2 0 0 as w r w2) (hL : MLS M.1.cls idx M2 n) (hn : as.length = n) (hk : k2 + 1 ≤ k ∧ M2.2.2.1 ≤ 19) (hnc : nc ≤ mc ∧ ns ≤ ms) (hst : (st.map fun v => v.category).sum ≤ 8) (K : Rq Z X M k mc ms w0 nc ns (pc + 3) ls (r.toList ++ st) w2) : Rq Z X M k mc ms w0 nc ns pc ls (as.reverse ++ st) w := by
  intro p l e s m args below meth c D cA ad0 A hC hX ad H locs lsA hg hP hD hS hl
  obtain ⟨hF, hPc⟩ := Fb_of as hC hg hP hD hS
  obtain ⟨⟨hlk, hini, hcode, hdd⟩, hstat⟩ := hL
  obtain ⟨hx, hb, hml, hrt, hlocks, hnm, hown, hts, hK, hA, hSt⟩ := id hC
  have hG : GoodIn lw_gd (Cond.code M2.1 M2.2.1 M2.2.2.1 M2.2.2.2 :: lw_gd) := gd_goodIn _ (fun _ h => h) hcode
  have hRm : (rmk k2 0 0).frames + 1 ≤ (rmk k mc ms).frames ∧ 8 + (M2.2.2.1 + 11) + (rmk k2 0 0).locals ≤ (rmk k mc ms).locals := by
    unfold rmk
    dsimp only
    omega
  have hst2 : (as.reverse ++ st).map (cv ad) = (as.map (cv ad)).reverse ++ st.map (cv ad) := by simp
  have hsum : ((st.map (cv ad)).map fun v => v.category).sum ≤ 8 := by rw [cv_sum]; exact hst
  rw [hst2]
  have hM' := hM l D cA ad H.size
  refine back0 hC hX hg hS hl hF (r := r) (w2 := w2) (a := (as.map (cv ad)).toArray) ?_ K
  rcases hlk with hlk | ⟨host, hlk⟩
  · exact va_runS (As := as.map (cv ad)) ⟨hx, hb, hml, hown, hts⟩ hM' ⟨callB_of n hts hG rfl rfl rfl (hts _ hini) (hts _ hlk) hdd hRm, hts _ hstat⟩ ⟨Fb_blind, hPc⟩ rfl (by simpa using hn) hl.1 rfl (lv_room hsum) hd ⟨hnc.1, hnc.2⟩
  · exact va_runSN (As := as.map (cv ad)) ⟨hx, hb, hml, hown, hts⟩ hM' ⟨va_cnB n hts hG rfl rfl rfl (hSt.2.2.1.2.1 _ hlk) (hts _ hini) hdd hRm, hts _ hstat, trivial⟩ ⟨Fb_blind, hPc⟩ rfl (by simpa using hn) hl.1 rfl (lv_room hsum) hd ⟨hnc.1, hnc.2⟩
end RC
end
section
abbrev mX7_ofWho : MI := (yX7_ofWho, cX7_ofWho, 1, some (.object "java/lang/String"))
abbrev mX7_ofFigure : MI := (yX7_ofFigure, cX7_ofFigure, 1, some (.object "java/lang/String"))
theorem fX8_12 : FL RX8 12 6 0 := ⟨by decide, by decide, Or.inl (gd_mem (List.mem_of_getElem? (i := 254) (by decide +kernel)) rfl)⟩
theorem fX8_19 : FL RX8 19 6 1 := ⟨by decide, by decide, Or.inl (gd_mem (List.mem_of_getElem? (i := 255) (by decide +kernel)) rfl)⟩
theorem fX8_26 : FL RX8 26 6 2 := ⟨by decide, by decide, Or.inl (gd_mem (List.mem_of_getElem? (i := 256) (by decide +kernel)) rfl)⟩
theorem fX8_30 : FL RX8 30 6 3 := ⟨by decide, by decide, Or.inl (gd_mem (List.mem_of_getElem? (i := 257) (by decide +kernel)) rfl)⟩
theorem fX8_33 : FL RX8 33 6 4 := ⟨by decide, by decide, Or.inl (gd_mem (List.mem_of_getElem? (i := 258) (by decide +kernel)) rfl)⟩
theorem fX8_40 : FL RX8 40 6 5 := ⟨by decide, by decide, Or.inl (gd_mem (List.mem_of_getElem? (i := 259) (by decide +kernel)) rfl)⟩
theorem fX8_49 : FL RX8 49 6 6 := ⟨by decide, by decide, Or.inl (gd_mem (List.mem_of_getElem? (i := 260) (by decide +kernel)) rfl)⟩
theorem fX8_56 : FL RX8 56 6 7 := ⟨by decide, by decide, Or.inl (gd_mem (List.mem_of_getElem? (i := 261) (by decide +kernel)) rfl)⟩
theorem fX8_60 : FL RX8 60 6 8 := ⟨by decide, by decide, Or.inl (gd_mem (List.mem_of_getElem? (i := 262) (by decide +kernel)) rfl)⟩
theorem lX8_64 : MLV RX8 64 mX5_put 1 4 := ⟨⟨Or.inl (gd_mem (List.mem_of_getElem? (i := 286) (by decide +kernel)) rfl), gd_mem (List.mem_of_getElem? (i := 60) (by decide +kernel)) rfl, gd_mem (List.mem_of_getElem? (i := 289) (by decide +kernel)) rfl, by decide +kernel⟩, by decide, rfl, gd_mem (List.mem_of_getElem? (i := 287) (by decide +kernel)) rfl, gd_mem (List.mem_of_getElem? (i := 288) (by decide +kernel)) rfl⟩
theorem fX8_68 : FL RX8 68 4 1 := ⟨by decide, by decide, Or.inr ⟨"SquareCaller", ns_mem (List.mem_of_getElem? (i := 91) (by decide +kernel)) rfl⟩⟩
theorem lX8_72 : MLV RX8 72 mX5_take 0 4 := ⟨⟨Or.inl (gd_mem (List.mem_of_getElem? (i := 294) (by decide +kernel)) rfl), gd_mem (List.mem_of_getElem? (i := 60) (by decide +kernel)) rfl, gd_mem (List.mem_of_getElem? (i := 297) (by decide +kernel)) rfl, by decide +kernel⟩, by decide, rfl, gd_mem (List.mem_of_getElem? (i := 295) (by decide +kernel)) rfl, gd_mem (List.mem_of_getElem? (i := 296) (by decide +kernel)) rfl⟩
theorem fX8_76 : FL RX8 76 0 3 := ⟨by decide, by decide, Or.inr ⟨"SquareCaller", ns_mem (List.mem_of_getElem? (i := 166) (by decide +kernel)) rfl⟩⟩
theorem fX8_79 : FL RX8 79 4 3 := ⟨by decide, by decide, Or.inr ⟨"SquareCaller", ns_mem (List.mem_of_getElem? (i := 94) (by decide +kernel)) rfl⟩⟩
theorem lX8_82 : MLV RX8 82 mX1_clear 0 1 := ⟨⟨Or.inl (gd_mem (List.mem_of_getElem? (i := 406) (by decide +kernel)) rfl), gd_mem (List.mem_of_getElem? (i := 64) (by decide +kernel)) rfl, gd_mem (List.mem_of_getElem? (i := 409) (by decide +kernel)) rfl, by decide +kernel⟩, by decide, rfl, gd_mem (List.mem_of_getElem? (i := 407) (by decide +kernel)) rfl, gd_mem (List.mem_of_getElem? (i := 408) (by decide +kernel)) rfl⟩
theorem lX8_85 : MLV RX8 85 mX5_codeAt 1 4 := ⟨⟨Or.inl (gd_mem (List.mem_of_getElem? (i := 410) (by decide +kernel)) rfl), gd_mem (List.mem_of_getElem? (i := 60) (by decide +kernel)) rfl, gd_mem (List.mem_of_getElem? (i := 413) (by decide +kernel)) rfl, by decide +kernel⟩, by decide, rfl, gd_mem (List.mem_of_getElem? (i := 411) (by decide +kernel)) rfl, gd_mem (List.mem_of_getElem? (i := 412) (by decide +kernel)) rfl⟩
theorem lX8_89 : MLV RX8 89 mX0_latest 0 0 := ⟨⟨Or.inl (gd_mem (List.mem_of_getElem? (i := 414) (by decide +kernel)) rfl), gd_mem (List.mem_of_getElem? (i := 62) (by decide +kernel)) rfl, gd_mem (List.mem_of_getElem? (i := 417) (by decide +kernel)) rfl, by decide +kernel⟩, by decide, rfl, gd_mem (List.mem_of_getElem? (i := 415) (by decide +kernel)) rfl, gd_mem (List.mem_of_getElem? (i := 416) (by decide +kernel)) rfl⟩
theorem lX8_93 : MLV RX8 93 mX2_load 1 2 := ⟨⟨Or.inl (gd_mem (List.mem_of_getElem? (i := 418) (by decide +kernel)) rfl), gd_mem (List.mem_of_getElem? (i := 61) (by decide +kernel)) rfl, gd_mem (List.mem_of_getElem? (i := 421) (by decide +kernel)) rfl, by decide +kernel⟩, by decide, rfl, gd_mem (List.mem_of_getElem? (i := 419) (by decide +kernel)) rfl, gd_mem (List.mem_of_getElem? (i := 420) (by decide +kernel)) rfl⟩
theorem lX8_97 : MLV RX8 97 mX2_plan 1 2 := ⟨⟨Or.inl (gd_mem (List.mem_of_getElem? (i := 428) (by decide +kernel)) rfl), gd_mem (List.mem_of_getElem? (i := 61) (by decide +kernel)) rfl, gd_mem (List.mem_of_getElem? (i := 431) (by decide +kernel)) rfl, by decide +kernel⟩, by decide, rfl, gd_mem (List.mem_of_getElem? (i := 429) (by decide +kernel)) rfl, gd_mem (List.mem_of_getElem? (i := 430) (by decide +kernel)) rfl⟩
theorem lX8_100 : MLV RX8 100 mX1_note 1 1 := ⟨⟨Or.inl (gd_mem (List.mem_of_getElem? (i := 511) (by decide +kernel)) rfl), gd_mem (List.mem_of_getElem? (i := 64) (by decide +kernel)) rfl, gd_mem (List.mem_of_getElem? (i := 514) (by decide +kernel)) rfl, by decide +kernel⟩, by decide, rfl, gd_mem (List.mem_of_getElem? (i := 512) (by decide +kernel)) rfl, gd_mem (List.mem_of_getElem? (i := 513) (by decide +kernel)) rfl⟩
theorem lX8_103 : MLV RX8 103 mX2_planned 0 2 := ⟨⟨Or.inl (gd_mem (List.mem_of_getElem? (i := 516) (by decide +kernel)) rfl), gd_mem (List.mem_of_getElem? (i := 61) (by decide +kernel)) rfl, gd_mem (List.mem_of_getElem? (i := 519) (by decide +kernel)) rfl, by decide +kernel⟩, by decide, rfl, gd_mem (List.mem_of_getElem? (i := 517) (by decide +kernel)) rfl, gd_mem (List.mem_of_getElem? (i := 518) (by decide +kernel)) rfl⟩
theorem lX8_106 : MLV RX8 106 mX0_add 2 0 := ⟨⟨Or.inl (gd_mem (List.mem_of_getElem? (i := 521) (by decide +kernel)) rfl), gd_mem (List.mem_of_getElem? (i := 62) (by decide +kernel)) rfl, gd_mem (List.mem_of_getElem? (i := 524) (by decide +kernel)) rfl, by decide +kernel⟩, by decide, rfl, gd_mem (List.mem_of_getElem? (i := 522) (by decide +kernel)) rfl, gd_mem (List.mem_of_getElem? (i := 523) (by decide +kernel)) rfl⟩
theorem lX8_110 : MLV RX8 110 mX8_tallyFigure 1 6 := ⟨⟨Or.inl (gd_mem (List.mem_of_getElem? (i := 525) (by decide +kernel)) rfl), gd_mem (List.mem_of_getElem? (i := 59) (by decide +kernel)) rfl, gd_mem (List.mem_of_getElem? (i := 528) (by decide +kernel)) rfl, by decide +kernel⟩, by decide, rfl, gd_mem (List.mem_of_getElem? (i := 527) (by decide +kernel)) rfl, gd_mem (List.mem_of_getElem? (i := 22) (by decide +kernel)) rfl⟩
theorem fX8_114 : FL RX8 114 1 2 := ⟨by decide, by decide, Or.inr ⟨"SquareCaller", ns_mem (List.mem_of_getElem? (i := 191) (by decide +kernel)) rfl⟩⟩
theorem fX8_117 : FL RX8 117 1 1 := ⟨by decide, by decide, Or.inr ⟨"SquareCaller", ns_mem (List.mem_of_getElem? (i := 189) (by decide +kernel)) rfl⟩⟩
theorem lX8_118 : MLV RX8 118 mX1_has 1 1 := ⟨⟨Or.inl (gd_mem (List.mem_of_getElem? (i := 534) (by decide +kernel)) rfl), gd_mem (List.mem_of_getElem? (i := 64) (by decide +kernel)) rfl, gd_mem (List.mem_of_getElem? (i := 537) (by decide +kernel)) rfl, by decide +kernel⟩, by decide, rfl, gd_mem (List.mem_of_getElem? (i := 535) (by decide +kernel)) rfl, gd_mem (List.mem_of_getElem? (i := 536) (by decide +kernel)) rfl⟩
theorem fX8_121 : FL RX8 121 1 0 := ⟨by decide, by decide, Or.inr ⟨"SquareCaller", ns_mem (List.mem_of_getElem? (i := 187) (by decide +kernel)) rfl⟩⟩
theorem fX8_124 : FL RX8 124 2 7 := ⟨by decide, by decide, Or.inr ⟨"SquareCaller", ns_mem (List.mem_of_getElem? (i := 124) (by decide +kernel)) rfl⟩⟩
theorem lX8_127 : MLV RX8 127 mX0_stepBack 0 0 := ⟨⟨Or.inl (gd_mem (List.mem_of_getElem? (i := 546) (by decide +kernel)) rfl), gd_mem (List.mem_of_getElem? (i := 62) (by decide +kernel)) rfl, gd_mem (List.mem_of_getElem? (i := 549) (by decide +kernel)) rfl, by decide +kernel⟩, by decide, rfl, gd_mem (List.mem_of_getElem? (i := 547) (by decide +kernel)) rfl, gd_mem (List.mem_of_getElem? (i := 548) (by decide +kernel)) rfl⟩
theorem lX8_131 : MLV RX8 131 mX0_stepAgain 0 0 := ⟨⟨Or.inl (gd_mem (List.mem_of_getElem? (i := 554) (by decide +kernel)) rfl), gd_mem (List.mem_of_getElem? (i := 62) (by decide +kernel)) rfl, gd_mem (List.mem_of_getElem? (i := 557) (by decide +kernel)) rfl, by decide +kernel⟩, by decide, rfl, gd_mem (List.mem_of_getElem? (i := 555) (by decide +kernel)) rfl, gd_mem (List.mem_of_getElem? (i := 556) (by decide +kernel)) rfl⟩
theorem lX8_134 : MLV RX8 134 mX0_codeAt 1 0 := ⟨⟨Or.inl (gd_mem (List.mem_of_getElem? (i := 558) (by decide +kernel)) rfl), gd_mem (List.mem_of_getElem? (i := 62) (by decide +kernel)) rfl, gd_mem (List.mem_of_getElem? (i := 561) (by decide +kernel)) rfl, by decide +kernel⟩, by decide, rfl, gd_mem (List.mem_of_getElem? (i := 559) (by decide +kernel)) rfl, gd_mem (List.mem_of_getElem? (i := 560) (by decide +kernel)) rfl⟩
theorem lX8_135 : MLV RX8 135 mX0_clear 0 0 := ⟨⟨Or.inl (gd_mem (List.mem_of_getElem? (i := 566) (by decide +kernel)) rfl), gd_mem (List.mem_of_getElem? (i := 62) (by decide +kernel)) rfl, gd_mem (List.mem_of_getElem? (i := 569) (by decide +kernel)) rfl, by decide +kernel⟩, by decide, rfl, gd_mem (List.mem_of_getElem? (i := 567) (by decide +kernel)) rfl, gd_mem (List.mem_of_getElem? (i := 568) (by decide +kernel)) rfl⟩
theorem fX8_136 : FL RX8 136 2 0 := ⟨by decide, by decide, Or.inr ⟨"SquareCaller", ns_mem (List.mem_of_getElem? (i := 112) (by decide +kernel)) rfl⟩⟩
theorem fX8_139 : FL RX8 139 2 1 := ⟨by decide, by decide, Or.inr ⟨"SquareCaller", ns_mem (List.mem_of_getElem? (i := 114) (by decide +kernel)) rfl⟩⟩
theorem lX8_142 : MLV RX8 142 mX2_beside 2 2 := ⟨⟨Or.inl (gd_mem (List.mem_of_getElem? (i := 574) (by decide +kernel)) rfl), gd_mem (List.mem_of_getElem? (i := 61) (by decide +kernel)) rfl, gd_mem (List.mem_of_getElem? (i := 446) (by decide +kernel)) rfl, by decide +kernel⟩, by decide, rfl, gd_mem (List.mem_of_getElem? (i := 444) (by decide +kernel)) rfl, gd_mem (List.mem_of_getElem? (i := 445) (by decide +kernel)) rfl⟩
theorem lX8_146 : MLS RX8 146 mX8_orNot 1 := ⟨⟨Or.inl (gd_mem (List.mem_of_getElem? (i := 575) (by decide +kernel)) rfl), gd_mem (List.mem_of_getElem? (i := 59) (by decide +kernel)) rfl, gd_mem (List.mem_of_getElem? (i := 577) (by decide +kernel)) rfl, by decide +kernel⟩, gd_mem (List.mem_of_getElem? (i := 576) (by decide +kernel)) rfl⟩
theorem fX8_149 : FL RX8 149 2 2 := ⟨by decide, by decide, Or.inr ⟨"SquareCaller", ns_mem (List.mem_of_getElem? (i := 116) (by decide +kernel)) rfl⟩⟩
theorem lX8_152 : MLV RX8 152 mX2_meantBy 1 2 := ⟨⟨Or.inl (gd_mem (List.mem_of_getElem? (i := 586) (by decide +kernel)) rfl), gd_mem (List.mem_of_getElem? (i := 61) (by decide +kernel)) rfl, gd_mem (List.mem_of_getElem? (i := 435) (by decide +kernel)) rfl, by decide +kernel⟩, by decide, rfl, gd_mem (List.mem_of_getElem? (i := 433) (by decide +kernel)) rfl, gd_mem (List.mem_of_getElem? (i := 434) (by decide +kernel)) rfl⟩
theorem lX8_155 : MLV RX8 155 mX2_atHome 1 2 := ⟨⟨Or.inl (gd_mem (List.mem_of_getElem? (i := 591) (by decide +kernel)) rfl), gd_mem (List.mem_of_getElem? (i := 61) (by decide +kernel)) rfl, gd_mem (List.mem_of_getElem? (i := 594) (by decide +kernel)) rfl, by decide +kernel⟩, by decide, rfl, gd_mem (List.mem_of_getElem? (i := 592) (by decide +kernel)) rfl, gd_mem (List.mem_of_getElem? (i := 593) (by decide +kernel)) rfl⟩
theorem lX8_159 : MLV RX8 159 mX2_couples 0 2 := ⟨⟨Or.inl (gd_mem (List.mem_of_getElem? (i := 595) (by decide +kernel)) rfl), gd_mem (List.mem_of_getElem? (i := 61) (by decide +kernel)) rfl, gd_mem (List.mem_of_getElem? (i := 598) (by decide +kernel)) rfl, by decide +kernel⟩, by decide, rfl, gd_mem (List.mem_of_getElem? (i := 596) (by decide +kernel)) rfl, gd_mem (List.mem_of_getElem? (i := 597) (by decide +kernel)) rfl⟩
theorem fX8_162 : FL RX8 162 5 7 := ⟨by decide, by decide, Or.inr ⟨"SquareCaller", ns_mem (List.mem_of_getElem? (i := 214) (by decide +kernel)) rfl⟩⟩
theorem lX8_166 : MLV RX8 166 mX6_search 1 5 := ⟨⟨Or.inl (gd_mem (List.mem_of_getElem? (i := 603) (by decide +kernel)) rfl), gd_mem (List.mem_of_getElem? (i := 65) (by decide +kernel)) rfl, gd_mem (List.mem_of_getElem? (i := 606) (by decide +kernel)) rfl, by decide +kernel⟩, by decide, rfl, gd_mem (List.mem_of_getElem? (i := 604) (by decide +kernel)) rfl, gd_mem (List.mem_of_getElem? (i := 605) (by decide +kernel)) rfl⟩
theorem fX8_169 : FL RX8 169 5 8 := ⟨by decide, by decide, Or.inr ⟨"SquareCaller", ns_mem (List.mem_of_getElem? (i := 216) (by decide +kernel)) rfl⟩⟩
theorem lX8_172 : MLV RX8 172 mX6_codeAt 1 5 := ⟨⟨Or.inl (gd_mem (List.mem_of_getElem? (i := 625) (by decide +kernel)) rfl), gd_mem (List.mem_of_getElem? (i := 65) (by decide +kernel)) rfl, gd_mem (List.mem_of_getElem? (i := 628) (by decide +kernel)) rfl, by decide +kernel⟩, by decide, rfl, gd_mem (List.mem_of_getElem? (i := 626) (by decide +kernel)) rfl, gd_mem (List.mem_of_getElem? (i := 627) (by decide +kernel)) rfl⟩
theorem lX8_173 : MLV RX8 173 mX8_danceInThought 0 6 := ⟨⟨Or.inl (gd_mem (List.mem_of_getElem? (i := 633) (by decide +kernel)) rfl), gd_mem (List.mem_of_getElem? (i := 59) (by decide +kernel)) rfl, gd_mem (List.mem_of_getElem? (i := 636) (by decide +kernel)) rfl, by decide +kernel⟩, by decide, rfl, gd_mem (List.mem_of_getElem? (i := 635) (by decide +kernel)) rfl, gd_mem (List.mem_of_getElem? (i := 26) (by decide +kernel)) rfl⟩
theorem lX8_176 : MLV RX8 176 mX2_packed 0 2 := ⟨⟨Or.inl (gd_mem (List.mem_of_getElem? (i := 637) (by decide +kernel)) rfl), gd_mem (List.mem_of_getElem? (i := 61) (by decide +kernel)) rfl, gd_mem (List.mem_of_getElem? (i := 640) (by decide +kernel)) rfl, by decide +kernel⟩, by decide, rfl, gd_mem (List.mem_of_getElem? (i := 638) (by decide +kernel)) rfl, gd_mem (List.mem_of_getElem? (i := 639) (by decide +kernel)) rfl⟩
theorem lX8_179 : MLS RX8 179 mX3_turned 2 := ⟨⟨Or.inl (gd_mem (List.mem_of_getElem? (i := 645) (by decide +kernel)) rfl), gd_mem (List.mem_of_getElem? (i := 63) (by decide +kernel)) rfl, gd_mem (List.mem_of_getElem? (i := 647) (by decide +kernel)) rfl, by decide +kernel⟩, gd_mem (List.mem_of_getElem? (i := 646) (by decide +kernel)) rfl⟩
theorem lX8_185 : MLV RX8 185 mX0_unlike 1 0 := ⟨⟨Or.inl (gd_mem (List.mem_of_getElem? (i := 654) (by decide +kernel)) rfl), gd_mem (List.mem_of_getElem? (i := 62) (by decide +kernel)) rfl, gd_mem (List.mem_of_getElem? (i := 657) (by decide +kernel)) rfl, by decide +kernel⟩, by decide, rfl, gd_mem (List.mem_of_getElem? (i := 655) (by decide +kernel)) rfl, gd_mem (List.mem_of_getElem? (i := 656) (by decide +kernel)) rfl⟩
theorem lX8_188 : MLV RX8 188 mX4_write 2 3 := ⟨⟨Or.inl (gd_mem (List.mem_of_getElem? (i := 670) (by decide +kernel)) rfl), gd_mem (List.mem_of_getElem? (i := 66) (by decide +kernel)) rfl, gd_mem (List.mem_of_getElem? (i := 673) (by decide +kernel)) rfl, by decide +kernel⟩, by decide, rfl, gd_mem (List.mem_of_getElem? (i := 671) (by decide +kernel)) rfl, gd_mem (List.mem_of_getElem? (i := 672) (by decide +kernel)) rfl⟩
theorem fX8_192 : FL RX8 192 3 2 := ⟨by decide, by decide, Or.inr ⟨"SquareCaller", ns_mem (List.mem_of_getElem? (i := 246) (by decide +kernel)) rfl⟩⟩
theorem fX8_193 : FL RX8 193 3 1 := ⟨by decide, by decide, Or.inr ⟨"SquareCaller", ns_mem (List.mem_of_getElem? (i := 244) (by decide +kernel)) rfl⟩⟩
theorem lX8_196 : MLV RX8 196 mX2_signOf 2 2 := ⟨⟨Or.inl (gd_mem (List.mem_of_getElem? (i := 700) (by decide +kernel)) rfl), gd_mem (List.mem_of_getElem? (i := 61) (by decide +kernel)) rfl, gd_mem (List.mem_of_getElem? (i := 703) (by decide +kernel)) rfl, by decide +kernel⟩, by decide, rfl, gd_mem (List.mem_of_getElem? (i := 701) (by decide +kernel)) rfl, gd_mem (List.mem_of_getElem? (i := 702) (by decide +kernel)) rfl⟩
theorem lX8_200 : MLV RX8 200 mX0_copyFrom 1 0 := ⟨⟨Or.inl (gd_mem (List.mem_of_getElem? (i := 718) (by decide +kernel)) rfl), gd_mem (List.mem_of_getElem? (i := 62) (by decide +kernel)) rfl, gd_mem (List.mem_of_getElem? (i := 721) (by decide +kernel)) rfl, by decide +kernel⟩, by decide, rfl, gd_mem (List.mem_of_getElem? (i := 719) (by decide +kernel)) rfl, gd_mem (List.mem_of_getElem? (i := 720) (by decide +kernel)) rfl⟩
theorem fX9_27 : FL RX9 27 7 0 := ⟨by decide, by decide, Or.inl (gd_mem (List.mem_of_getElem? (i := 770) (by decide +kernel)) rfl)⟩
theorem fX9_57 : FL RX9 57 7 1 := ⟨by decide, by decide, Or.inl (gd_mem (List.mem_of_getElem? (i := 771) (by decide +kernel)) rfl)⟩
theorem fX9_60 : FL RX9 60 7 2 := ⟨by decide, by decide, Or.inl (gd_mem (List.mem_of_getElem? (i := 772) (by decide +kernel)) rfl)⟩
theorem fX9_64 : FL RX9 64 7 3 := ⟨by decide, by decide, Or.inl (gd_mem (List.mem_of_getElem? (i := 773) (by decide +kernel)) rfl)⟩
theorem fX9_67 : FL RX9 67 7 4 := ⟨by decide, by decide, Or.inl (gd_mem (List.mem_of_getElem? (i := 774) (by decide +kernel)) rfl)⟩
theorem fX9_70 : FL RX9 70 7 5 := ⟨by decide, by decide, Or.inl (gd_mem (List.mem_of_getElem? (i := 775) (by decide +kernel)) rfl)⟩
theorem fX9_73 : FL RX9 73 7 6 := ⟨by decide, by decide, Or.inl (gd_mem (List.mem_of_getElem? (i := 776) (by decide +kernel)) rfl)⟩
theorem fX9_76 : FL RX9 76 7 7 := ⟨by decide, by decide, Or.inl (gd_mem (List.mem_of_getElem? (i := 777) (by decide +kernel)) rfl)⟩
theorem fX9_79 : FL RX9 79 7 8 := ⟨by decide, by decide, Or.inl (gd_mem (List.mem_of_getElem? (i := 778) (by decide +kernel)) rfl)⟩
theorem fX9_83 : FL RX9 83 7 11 := ⟨by decide, by decide, Or.inl (gd_mem (List.mem_of_getElem? (i := 781) (by decide +kernel)) rfl)⟩
theorem fX9_86 : FL RX9 86 7 12 := ⟨by decide, by decide, Or.inl (gd_mem (List.mem_of_getElem? (i := 782) (by decide +kernel)) rfl)⟩
theorem fX9_89 : FL RX9 89 7 15 := ⟨by decide, by decide, Or.inl (gd_mem (List.mem_of_getElem? (i := 785) (by decide +kernel)) rfl)⟩
theorem fX9_93 : FL RX9 93 7 16 := ⟨by decide, by decide, Or.inl (gd_mem (List.mem_of_getElem? (i := 786) (by decide +kernel)) rfl)⟩
theorem fX9_96 : FL RX9 96 7 17 := ⟨by decide, by decide, Or.inl (gd_mem (List.mem_of_getElem? (i := 787) (by decide +kernel)) rfl)⟩
theorem fX9_99 : FL RX9 99 7 18 := ⟨by decide, by decide, Or.inl (gd_mem (List.mem_of_getElem? (i := 788) (by decide +kernel)) rfl)⟩
theorem fX9_102 : FL RX9 102 7 19 := ⟨by decide, by decide, Or.inl (gd_mem (List.mem_of_getElem? (i := 789) (by decide +kernel)) rfl)⟩
theorem fX9_105 : FL RX9 105 7 22 := ⟨by decide, by decide, Or.inl (gd_mem (List.mem_of_getElem? (i := 792) (by decide +kernel)) rfl)⟩
theorem fX9_109 : FL RX9 109 7 23 := ⟨by decide, by decide, Or.inl (gd_mem (List.mem_of_getElem? (i := 793) (by decide +kernel)) rfl)⟩
theorem fX9_112 : FL RX9 112 7 24 := ⟨by decide, by decide, Or.inl (gd_mem (List.mem_of_getElem? (i := 794) (by decide +kernel)) rfl)⟩
theorem fX9_115 : FL RX9 115 7 29 := ⟨by decide, by decide, Or.inl (gd_mem (List.mem_of_getElem? (i := 799) (by decide +kernel)) rfl)⟩
theorem fX9_118 : FL RX9 118 7 30 := ⟨by decide, by decide, Or.inl (gd_mem (List.mem_of_getElem? (i := 800) (by decide +kernel)) rfl)⟩
theorem fX9_121 : FL RX9 121 7 31 := ⟨by decide, by decide, Or.inl (gd_mem (List.mem_of_getElem? (i := 801) (by decide +kernel)) rfl)⟩
theorem fX9_124 : FL RX9 124 7 32 := ⟨by decide, by decide, Or.inl (gd_mem (List.mem_of_getElem? (i := 802) (by decide +kernel)) rfl)⟩
theorem fX9_127 : FL RX9 127 7 33 := ⟨by decide, by decide, Or.inl (gd_mem (List.mem_of_getElem? (i := 803) (by decide +kernel)) rfl)⟩
theorem lX9_136 : MLV RX9 136 mX9_code 0 7 := ⟨⟨Or.inl (gd_mem (List.mem_of_getElem? (i := 762) (by decide +kernel)) rfl), gd_mem (List.mem_of_getElem? (i := 67) (by decide +kernel)) rfl, gd_mem (List.mem_of_getElem? (i := 765) (by decide +kernel)) rfl, by decide +kernel⟩, by decide, rfl, gd_mem (List.mem_of_getElem? (i := 764) (by decide +kernel)) rfl, gd_mem (List.mem_of_getElem? (i := 30) (by decide +kernel)) rfl⟩
theorem lX9_140 : MLV RX9 140 mX9_looks 1 7 := ⟨⟨Or.inl (gd_mem (List.mem_of_getElem? (i := 766) (by decide +kernel)) rfl), gd_mem (List.mem_of_getElem? (i := 67) (by decide +kernel)) rfl, gd_mem (List.mem_of_getElem? (i := 769) (by decide +kernel)) rfl, by decide +kernel⟩, by decide, rfl, gd_mem (List.mem_of_getElem? (i := 768) (by decide +kernel)) rfl, gd_mem (List.mem_of_getElem? (i := 31) (by decide +kernel)) rfl⟩
theorem fX9_144 : FL RX9 144 7 20 := ⟨by decide, by decide, Or.inl (gd_mem (List.mem_of_getElem? (i := 790) (by decide +kernel)) rfl)⟩
theorem lX9_147 : MLS RX9 147 mX9_isIn 3 := ⟨⟨Or.inl (gd_mem (List.mem_of_getElem? (i := 881) (by decide +kernel)) rfl), gd_mem (List.mem_of_getElem? (i := 67) (by decide +kernel)) rfl, gd_mem (List.mem_of_getElem? (i := 883) (by decide +kernel)) rfl, by decide +kernel⟩, gd_mem (List.mem_of_getElem? (i := 882) (by decide +kernel)) rfl⟩
theorem lX9_151 : MLS RX9 151 mX9_next 2 := ⟨⟨Or.inl (gd_mem (List.mem_of_getElem? (i := 942) (by decide +kernel)) rfl), gd_mem (List.mem_of_getElem? (i := 67) (by decide +kernel)) rfl, gd_mem (List.mem_of_getElem? (i := 944) (by decide +kernel)) rfl, by decide +kernel⟩, gd_mem (List.mem_of_getElem? (i := 943) (by decide +kernel)) rfl⟩
theorem lX9_158 : MLS RX9 158 mX9_has 2 := ⟨⟨Or.inl (gd_mem (List.mem_of_getElem? (i := 935) (by decide +kernel)) rfl), gd_mem (List.mem_of_getElem? (i := 67) (by decide +kernel)) rfl, gd_mem (List.mem_of_getElem? (i := 937) (by decide +kernel)) rfl, by decide +kernel⟩, gd_mem (List.mem_of_getElem? (i := 936) (by decide +kernel)) rfl⟩
theorem lX9_162 : MLV RX9 162 mX9_beside 2 7 := ⟨⟨Or.inl (gd_mem (List.mem_of_getElem? (i := 938) (by decide +kernel)) rfl), gd_mem (List.mem_of_getElem? (i := 67) (by decide +kernel)) rfl, gd_mem (List.mem_of_getElem? (i := 941) (by decide +kernel)) rfl, by decide +kernel⟩, by decide, rfl, gd_mem (List.mem_of_getElem? (i := 940) (by decide +kernel)) rfl, gd_mem (List.mem_of_getElem? (i := 42) (by decide +kernel)) rfl⟩
theorem lX9_165 : MLV RX9 165 mX9_isMeant 2 7 := ⟨⟨Or.inl (gd_mem (List.mem_of_getElem? (i := 929) (by decide +kernel)) rfl), gd_mem (List.mem_of_getElem? (i := 67) (by decide +kernel)) rfl, gd_mem (List.mem_of_getElem? (i := 932) (by decide +kernel)) rfl, by decide +kernel⟩, by decide, rfl, gd_mem (List.mem_of_getElem? (i := 931) (by decide +kernel)) rfl, gd_mem (List.mem_of_getElem? (i := 41) (by decide +kernel)) rfl⟩
theorem lX9_168 : MLV RX9 168 mX9_mayPair 4 7 := ⟨⟨Or.inl (gd_mem (List.mem_of_getElem? (i := 964) (by decide +kernel)) rfl), gd_mem (List.mem_of_getElem? (i := 67) (by decide +kernel)) rfl, gd_mem (List.mem_of_getElem? (i := 967) (by decide +kernel)) rfl, by decide +kernel⟩, by decide, rfl, gd_mem (List.mem_of_getElem? (i := 966) (by decide +kernel)) rfl, gd_mem (List.mem_of_getElem? (i := 47) (by decide +kernel)) rfl⟩
theorem lX9_172 : MLV RX9 172 mX9_goesTo 2 7 := ⟨⟨Or.inl (gd_mem (List.mem_of_getElem? (i := 952) (by decide +kernel)) rfl), gd_mem (List.mem_of_getElem? (i := 67) (by decide +kernel)) rfl, gd_mem (List.mem_of_getElem? (i := 955) (by decide +kernel)) rfl, by decide +kernel⟩, by decide, rfl, gd_mem (List.mem_of_getElem? (i := 954) (by decide +kernel)) rfl, gd_mem (List.mem_of_getElem? (i := 44) (by decide +kernel)) rfl⟩
theorem lX9_176 : MLV RX9 176 mX9_turns 2 7 := ⟨⟨Or.inl (gd_mem (List.mem_of_getElem? (i := 972) (by decide +kernel)) rfl), gd_mem (List.mem_of_getElem? (i := 67) (by decide +kernel)) rfl, gd_mem (List.mem_of_getElem? (i := 975) (by decide +kernel)) rfl, by decide +kernel⟩, by decide, rfl, gd_mem (List.mem_of_getElem? (i := 974) (by decide +kernel)) rfl, gd_mem (List.mem_of_getElem? (i := 49) (by decide +kernel)) rfl⟩
theorem lX9_179 : MLV RX9 179 mX9_mateOf 3 7 := ⟨⟨Or.inl (gd_mem (List.mem_of_getElem? (i := 960) (by decide +kernel)) rfl), gd_mem (List.mem_of_getElem? (i := 67) (by decide +kernel)) rfl, gd_mem (List.mem_of_getElem? (i := 963) (by decide +kernel)) rfl, by decide +kernel⟩, by decide, rfl, gd_mem (List.mem_of_getElem? (i := 962) (by decide +kernel)) rfl, gd_mem (List.mem_of_getElem? (i := 46) (by decide +kernel)) rfl⟩
theorem fX9_183 : FL RX9 183 7 9 := ⟨by decide, by decide, Or.inl (gd_mem (List.mem_of_getElem? (i := 779) (by decide +kernel)) rfl)⟩
theorem lX9_186 : MLV RX9 186 mX9_folds 2 7 := ⟨⟨Or.inl (gd_mem (List.mem_of_getElem? (i := 968) (by decide +kernel)) rfl), gd_mem (List.mem_of_getElem? (i := 67) (by decide +kernel)) rfl, gd_mem (List.mem_of_getElem? (i := 971) (by decide +kernel)) rfl, by decide +kernel⟩, by decide, rfl, gd_mem (List.mem_of_getElem? (i := 970) (by decide +kernel)) rfl, gd_mem (List.mem_of_getElem? (i := 48) (by decide +kernel)) rfl⟩
theorem lX9_189 : MLS RX9 189 mX9_placeOf 1 := ⟨⟨Or.inl (gd_mem (List.mem_of_getElem? (i := 949) (by decide +kernel)) rfl), gd_mem (List.mem_of_getElem? (i := 67) (by decide +kernel)) rfl, gd_mem (List.mem_of_getElem? (i := 951) (by decide +kernel)) rfl, by decide +kernel⟩, gd_mem (List.mem_of_getElem? (i := 950) (by decide +kernel)) rfl⟩
theorem fX9_193 : FL RX9 193 7 10 := ⟨by decide, by decide, Or.inl (gd_mem (List.mem_of_getElem? (i := 780) (by decide +kernel)) rfl)⟩
theorem lX9_196 : MLV RX9 196 mX9_meantBy 1 7 := ⟨⟨Or.inl (gd_mem (List.mem_of_getElem? (i := 925) (by decide +kernel)) rfl), gd_mem (List.mem_of_getElem? (i := 67) (by decide +kernel)) rfl, gd_mem (List.mem_of_getElem? (i := 928) (by decide +kernel)) rfl, by decide +kernel⟩, by decide, rfl, gd_mem (List.mem_of_getElem? (i := 927) (by decide +kernel)) rfl, gd_mem (List.mem_of_getElem? (i := 40) (by decide +kernel)) rfl⟩
theorem lX9_199 : MLV RX9 199 mX9_rings 1 7 := ⟨⟨Or.inl (gd_mem (List.mem_of_getElem? (i := 945) (by decide +kernel)) rfl), gd_mem (List.mem_of_getElem? (i := 67) (by decide +kernel)) rfl, gd_mem (List.mem_of_getElem? (i := 948) (by decide +kernel)) rfl, by decide +kernel⟩, by decide, rfl, gd_mem (List.mem_of_getElem? (i := 947) (by decide +kernel)) rfl, gd_mem (List.mem_of_getElem? (i := 43) (by decide +kernel)) rfl⟩
theorem lX9_203 : MLV RX9 203 mX9_pairs 2 7 := ⟨⟨Or.inl (gd_mem (List.mem_of_getElem? (i := 956) (by decide +kernel)) rfl), gd_mem (List.mem_of_getElem? (i := 67) (by decide +kernel)) rfl, gd_mem (List.mem_of_getElem? (i := 959) (by decide +kernel)) rfl, by decide +kernel⟩, by decide, rfl, gd_mem (List.mem_of_getElem? (i := 958) (by decide +kernel)) rfl, gd_mem (List.mem_of_getElem? (i := 45) (by decide +kernel)) rfl⟩
theorem lX9_205 : MLV RX9 205 mX9_fallOf 1 7 := ⟨⟨Or.inl (gd_mem (List.mem_of_getElem? (i := 976) (by decide +kernel)) rfl), gd_mem (List.mem_of_getElem? (i := 67) (by decide +kernel)) rfl, gd_mem (List.mem_of_getElem? (i := 979) (by decide +kernel)) rfl, by decide +kernel⟩, by decide, rfl, gd_mem (List.mem_of_getElem? (i := 978) (by decide +kernel)) rfl, gd_mem (List.mem_of_getElem? (i := 50) (by decide +kernel)) rfl⟩
theorem fX9_208 : FL RX9 208 7 25 := ⟨by decide, by decide, Or.inl (gd_mem (List.mem_of_getElem? (i := 795) (by decide +kernel)) rfl)⟩
theorem fX9_219 : FL RX9 219 7 27 := ⟨by decide, by decide, Or.inl (gd_mem (List.mem_of_getElem? (i := 797) (by decide +kernel)) rfl)⟩
theorem fX9_222 : FL RX9 222 7 28 := ⟨by decide, by decide, Or.inl (gd_mem (List.mem_of_getElem? (i := 798) (by decide +kernel)) rfl)⟩
theorem lX9_225 : MLV RX9 225 mX9_wordFrom 1 7 := ⟨⟨Or.inl (gd_mem (List.mem_of_getElem? (i := 896) (by decide +kernel)) rfl), gd_mem (List.mem_of_getElem? (i := 67) (by decide +kernel)) rfl, gd_mem (List.mem_of_getElem? (i := 899) (by decide +kernel)) rfl, by decide +kernel⟩, by decide, rfl, gd_mem (List.mem_of_getElem? (i := 898) (by decide +kernel)) rfl, gd_mem (List.mem_of_getElem? (i := 34) (by decide +kernel)) rfl⟩
theorem lX9_228 : MLV RX9 228 mX9_find 2 7 := ⟨⟨Or.inl (gd_mem (List.mem_of_getElem? (i := 900) (by decide +kernel)) rfl), gd_mem (List.mem_of_getElem? (i := 67) (by decide +kernel)) rfl, gd_mem (List.mem_of_getElem? (i := 903) (by decide +kernel)) rfl, by decide +kernel⟩, by decide, rfl, gd_mem (List.mem_of_getElem? (i := 902) (by decide +kernel)) rfl, gd_mem (List.mem_of_getElem? (i := 35) (by decide +kernel)) rfl⟩
theorem lX9_232 : MLV RX9 232 mX9_sees 1 7 := ⟨⟨Or.inl (gd_mem (List.mem_of_getElem? (i := 906) (by decide +kernel)) rfl), gd_mem (List.mem_of_getElem? (i := 67) (by decide +kernel)) rfl, gd_mem (List.mem_of_getElem? (i := 909) (by decide +kernel)) rfl, by decide +kernel⟩, by decide, rfl, gd_mem (List.mem_of_getElem? (i := 908) (by decide +kernel)) rfl, gd_mem (List.mem_of_getElem? (i := 36) (by decide +kernel)) rfl⟩
theorem lX9_236 : MLV RX9 236 mX9_fails 1 7 := ⟨⟨Or.inl (gd_mem (List.mem_of_getElem? (i := 910) (by decide +kernel)) rfl), gd_mem (List.mem_of_getElem? (i := 67) (by decide +kernel)) rfl, gd_mem (List.mem_of_getElem? (i := 913) (by decide +kernel)) rfl, by decide +kernel⟩, by decide, rfl, gd_mem (List.mem_of_getElem? (i := 912) (by decide +kernel)) rfl, gd_mem (List.mem_of_getElem? (i := 37) (by decide +kernel)) rfl⟩
theorem fX9_239 : FL RX9 239 7 26 := ⟨by decide, by decide, Or.inl (gd_mem (List.mem_of_getElem? (i := 796) (by decide +kernel)) rfl)⟩
theorem lX9_247 : MLV RX9 247 mX9_reads 0 7 := ⟨⟨Or.inl (gd_mem (List.mem_of_getElem? (i := 892) (by decide +kernel)) rfl), gd_mem (List.mem_of_getElem? (i := 67) (by decide +kernel)) rfl, gd_mem (List.mem_of_getElem? (i := 895) (by decide +kernel)) rfl, by decide +kernel⟩, by decide, rfl, gd_mem (List.mem_of_getElem? (i := 894) (by decide +kernel)) rfl, gd_mem (List.mem_of_getElem? (i := 33) (by decide +kernel)) rfl⟩
theorem lX9_249 : MLV RX9 249 mX9_made 0 7 := ⟨⟨Or.inl (gd_mem (List.mem_of_getElem? (i := 984) (by decide +kernel)) rfl), gd_mem (List.mem_of_getElem? (i := 67) (by decide +kernel)) rfl, gd_mem (List.mem_of_getElem? (i := 987) (by decide +kernel)) rfl, by decide +kernel⟩, by decide, rfl, gd_mem (List.mem_of_getElem? (i := 986) (by decide +kernel)) rfl, gd_mem (List.mem_of_getElem? (i := 52) (by decide +kernel)) rfl⟩
theorem fX9_252 : FL RX9 252 7 21 := ⟨by decide, by decide, Or.inl (gd_mem (List.mem_of_getElem? (i := 791) (by decide +kernel)) rfl)⟩
theorem lX9_255 : MLV RX9 255 mX9_looksNow 0 7 := ⟨⟨Or.inl (gd_mem (List.mem_of_getElem? (i := 917) (by decide +kernel)) rfl), gd_mem (List.mem_of_getElem? (i := 67) (by decide +kernel)) rfl, gd_mem (List.mem_of_getElem? (i := 920) (by decide +kernel)) rfl, by decide +kernel⟩, by decide, rfl, gd_mem (List.mem_of_getElem? (i := 919) (by decide +kernel)) rfl, gd_mem (List.mem_of_getElem? (i := 38) (by decide +kernel)) rfl⟩
theorem lX9_258 : MLV RX9 258 mX9_isText 0 7 := ⟨⟨Or.inl (gd_mem (List.mem_of_getElem? (i := 888) (by decide +kernel)) rfl), gd_mem (List.mem_of_getElem? (i := 67) (by decide +kernel)) rfl, gd_mem (List.mem_of_getElem? (i := 891) (by decide +kernel)) rfl, by decide +kernel⟩, by decide, rfl, gd_mem (List.mem_of_getElem? (i := 890) (by decide +kernel)) rfl, gd_mem (List.mem_of_getElem? (i := 32) (by decide +kernel)) rfl⟩
theorem fX9_262 : FL RX9 262 7 13 := ⟨by decide, by decide, Or.inl (gd_mem (List.mem_of_getElem? (i := 783) (by decide +kernel)) rfl)⟩
theorem fX9_265 : FL RX9 265 7 14 := ⟨by decide, by decide, Or.inl (gd_mem (List.mem_of_getElem? (i := 784) (by decide +kernel)) rfl)⟩
theorem lX9_268 : MLV RX9 268 mX9_tries 2 7 := ⟨⟨Or.inl (gd_mem (List.mem_of_getElem? (i := 921) (by decide +kernel)) rfl), gd_mem (List.mem_of_getElem? (i := 67) (by decide +kernel)) rfl, gd_mem (List.mem_of_getElem? (i := 924) (by decide +kernel)) rfl, by decide +kernel⟩, by decide, rfl, gd_mem (List.mem_of_getElem? (i := 923) (by decide +kernel)) rfl, gd_mem (List.mem_of_getElem? (i := 39) (by decide +kernel)) rfl⟩
theorem lX9_271 : MLV RX9 271 mX9_dances 1 7 := ⟨⟨Or.inl (gd_mem (List.mem_of_getElem? (i := 980) (by decide +kernel)) rfl), gd_mem (List.mem_of_getElem? (i := 67) (by decide +kernel)) rfl, gd_mem (List.mem_of_getElem? (i := 983) (by decide +kernel)) rfl, by decide +kernel⟩, by decide, rfl, gd_mem (List.mem_of_getElem? (i := 982) (by decide +kernel)) rfl, gd_mem (List.mem_of_getElem? (i := 51) (by decide +kernel)) rfl⟩
theorem lX9_274 : MLV RX9 274 mX9_searches 0 7 := ⟨⟨Or.inl (gd_mem (List.mem_of_getElem? (i := 1028) (by decide +kernel)) rfl), gd_mem (List.mem_of_getElem? (i := 67) (by decide +kernel)) rfl, gd_mem (List.mem_of_getElem? (i := 1031) (by decide +kernel)) rfl, by decide +kernel⟩, by decide, rfl, gd_mem (List.mem_of_getElem? (i := 1030) (by decide +kernel)) rfl, gd_mem (List.mem_of_getElem? (i := 53) (by decide +kernel)) rfl⟩
theorem lX9_277 : MLV RX9 277 mX9_quarter 2 7 := ⟨⟨Or.inl (gd_mem (List.mem_of_getElem? (i := 1044) (by decide +kernel)) rfl), gd_mem (List.mem_of_getElem? (i := 67) (by decide +kernel)) rfl, gd_mem (List.mem_of_getElem? (i := 1047) (by decide +kernel)) rfl, by decide +kernel⟩, by decide, rfl, gd_mem (List.mem_of_getElem? (i := 1046) (by decide +kernel)) rfl, gd_mem (List.mem_of_getElem? (i := 55) (by decide +kernel)) rfl⟩
theorem lX9_281 : MLV RX9 281 mX9_quarters 3 7 := ⟨⟨Or.inl (gd_mem (List.mem_of_getElem? (i := 1040) (by decide +kernel)) rfl), gd_mem (List.mem_of_getElem? (i := 67) (by decide +kernel)) rfl, gd_mem (List.mem_of_getElem? (i := 1043) (by decide +kernel)) rfl, by decide +kernel⟩, by decide, rfl, gd_mem (List.mem_of_getElem? (i := 1042) (by decide +kernel)) rfl, gd_mem (List.mem_of_getElem? (i := 54) (by decide +kernel)) rfl⟩
theorem fX9_285 : FL RX9 285 7 34 := ⟨by decide, by decide, Or.inl (gd_mem (List.mem_of_getElem? (i := 804) (by decide +kernel)) rfl)⟩
theorem lX9_288 : MLV RX9 288 mX9_prints 1 7 := ⟨⟨Or.inl (gd_mem (List.mem_of_getElem? (i := 1056) (by decide +kernel)) rfl), gd_mem (List.mem_of_getElem? (i := 67) (by decide +kernel)) rfl, gd_mem (List.mem_of_getElem? (i := 1059) (by decide +kernel)) rfl, by decide +kernel⟩, by decide, rfl, gd_mem (List.mem_of_getElem? (i := 1058) (by decide +kernel)) rfl, gd_mem (List.mem_of_getElem? (i := 56) (by decide +kernel)) rfl⟩
theorem lX9_291 : MLV RX9 291 mX9_prints_ 1 7 := ⟨⟨Or.inl (gd_mem (List.mem_of_getElem? (i := 1060) (by decide +kernel)) rfl), gd_mem (List.mem_of_getElem? (i := 67) (by decide +kernel)) rfl, gd_mem (List.mem_of_getElem? (i := 1063) (by decide +kernel)) rfl, by decide +kernel⟩, by decide, rfl, gd_mem (List.mem_of_getElem? (i := 1062) (by decide +kernel)) rfl, gd_mem (List.mem_of_getElem? (i := 57) (by decide +kernel)) rfl⟩
theorem fX0_9 : FL RX0 9 0 0 := ⟨by decide, by decide, Or.inl (gd_mem (List.mem_of_getElem? (i := 161) (by decide +kernel)) rfl)⟩
theorem fX0_13 : FL RX0 13 0 1 := ⟨by decide, by decide, Or.inl (gd_mem (List.mem_of_getElem? (i := 162) (by decide +kernel)) rfl)⟩
theorem fX0_17 : FL RX0 17 0 2 := ⟨by decide, by decide, Or.inl (gd_mem (List.mem_of_getElem? (i := 163) (by decide +kernel)) rfl)⟩
theorem fX0_20 : FL RX0 20 0 3 := ⟨by decide, by decide, Or.inl (gd_mem (List.mem_of_getElem? (i := 164) (by decide +kernel)) rfl)⟩
theorem fX0_24 : FL RX0 24 0 4 := ⟨by decide, by decide, Or.inl (gd_mem (List.mem_of_getElem? (i := 167) (by decide +kernel)) rfl)⟩
theorem lX0_27 : MLS RX0 27 mX3_atFirst 0 := ⟨⟨Or.inl (gd_mem (List.mem_of_getElem? (i := 148) (by decide +kernel)) rfl), gd_mem (List.mem_of_getElem? (i := 63) (by decide +kernel)) rfl, gd_mem (List.mem_of_getElem? (i := 150) (by decide +kernel)) rfl, by decide +kernel⟩, gd_mem (List.mem_of_getElem? (i := 149) (by decide +kernel)) rfl⟩
theorem lX0_39 : MLS RX0 39 mX3_least 2 := ⟨⟨Or.inl (gd_mem (List.mem_of_getElem? (i := 658) (by decide +kernel)) rfl), gd_mem (List.mem_of_getElem? (i := 63) (by decide +kernel)) rfl, gd_mem (List.mem_of_getElem? (i := 660) (by decide +kernel)) rfl, by decide +kernel⟩, gd_mem (List.mem_of_getElem? (i := 659) (by decide +kernel)) rfl⟩
theorem lX0_43 : MLS RX0 43 mX3_isAmong 3 := ⟨⟨Or.inl (gd_mem (List.mem_of_getElem? (i := 665) (by decide +kernel)) rfl), gd_mem (List.mem_of_getElem? (i := 63) (by decide +kernel)) rfl, gd_mem (List.mem_of_getElem? (i := 624) (by decide +kernel)) rfl, by decide +kernel⟩, gd_mem (List.mem_of_getElem? (i := 623) (by decide +kernel)) rfl⟩
theorem lX0_47 : MLV RX0 47 mX0_codeAt 1 0 := ⟨⟨Or.inl (gd_mem (List.mem_of_getElem? (i := 678) (by decide +kernel)) rfl), gd_mem (List.mem_of_getElem? (i := 62) (by decide +kernel)) rfl, gd_mem (List.mem_of_getElem? (i := 561) (by decide +kernel)) rfl, by decide +kernel⟩, by decide, rfl, gd_mem (List.mem_of_getElem? (i := 559) (by decide +kernel)) rfl, gd_mem (List.mem_of_getElem? (i := 560) (by decide +kernel)) rfl⟩
theorem fX1_9 : FL RX1 9 1 0 := ⟨by decide, by decide, Or.inl (gd_mem (List.mem_of_getElem? (i := 186) (by decide +kernel)) rfl)⟩
theorem fX1_15 : FL RX1 15 1 1 := ⟨by decide, by decide, Or.inl (gd_mem (List.mem_of_getElem? (i := 188) (by decide +kernel)) rfl)⟩
theorem fX1_19 : FL RX1 19 1 2 := ⟨by decide, by decide, Or.inl (gd_mem (List.mem_of_getElem? (i := 190) (by decide +kernel)) rfl)⟩
theorem lX1_22 : MLV RX1 22 mX1_clear 0 1 := ⟨⟨Or.inl (gd_mem (List.mem_of_getElem? (i := 515) (by decide +kernel)) rfl), gd_mem (List.mem_of_getElem? (i := 64) (by decide +kernel)) rfl, gd_mem (List.mem_of_getElem? (i := 409) (by decide +kernel)) rfl, by decide +kernel⟩, by decide, rfl, gd_mem (List.mem_of_getElem? (i := 407) (by decide +kernel)) rfl, gd_mem (List.mem_of_getElem? (i := 408) (by decide +kernel)) rfl⟩
theorem fX1_25 : FL RX1 25 2 6 := ⟨by decide, by decide, Or.inr ⟨"SquareCaller", ns_mem (List.mem_of_getElem? (i := 122) (by decide +kernel)) rfl⟩⟩
theorem fX1_28 : FL RX1 28 2 5 := ⟨by decide, by decide, Or.inr ⟨"SquareCaller", ns_mem (List.mem_of_getElem? (i := 120) (by decide +kernel)) rfl⟩⟩
theorem fX2_9 : FL RX2 9 2 0 := ⟨by decide, by decide, Or.inl (gd_mem (List.mem_of_getElem? (i := 111) (by decide +kernel)) rfl)⟩
theorem fX2_15 : FL RX2 15 2 1 := ⟨by decide, by decide, Or.inl (gd_mem (List.mem_of_getElem? (i := 113) (by decide +kernel)) rfl)⟩
theorem fX2_18 : FL RX2 18 2 2 := ⟨by decide, by decide, Or.inl (gd_mem (List.mem_of_getElem? (i := 115) (by decide +kernel)) rfl)⟩
theorem fX2_21 : FL RX2 21 2 3 := ⟨by decide, by decide, Or.inl (gd_mem (List.mem_of_getElem? (i := 117) (by decide +kernel)) rfl)⟩
theorem fX2_24 : FL RX2 24 2 4 := ⟨by decide, by decide, Or.inl (gd_mem (List.mem_of_getElem? (i := 118) (by decide +kernel)) rfl)⟩
theorem fX2_27 : FL RX2 27 2 5 := ⟨by decide, by decide, Or.inl (gd_mem (List.mem_of_getElem? (i := 119) (by decide +kernel)) rfl)⟩
theorem fX2_30 : FL RX2 30 2 6 := ⟨by decide, by decide, Or.inl (gd_mem (List.mem_of_getElem? (i := 121) (by decide +kernel)) rfl)⟩
theorem fX2_34 : FL RX2 34 2 7 := ⟨by decide, by decide, Or.inl (gd_mem (List.mem_of_getElem? (i := 123) (by decide +kernel)) rfl)⟩
theorem lX2_37 : MLS RX2 37 mX3_cellOf 2 := ⟨⟨Or.inl (gd_mem (List.mem_of_getElem? (i := 422) (by decide +kernel)) rfl), gd_mem (List.mem_of_getElem? (i := 63) (by decide +kernel)) rfl, gd_mem (List.mem_of_getElem? (i := 424) (by decide +kernel)) rfl, by decide +kernel⟩, gd_mem (List.mem_of_getElem? (i := 423) (by decide +kernel)) rfl⟩
theorem lX2_43 : MLS RX2 43 mX3_facingOf 2 := ⟨⟨Or.inl (gd_mem (List.mem_of_getElem? (i := 425) (by decide +kernel)) rfl), gd_mem (List.mem_of_getElem? (i := 63) (by decide +kernel)) rfl, gd_mem (List.mem_of_getElem? (i := 427) (by decide +kernel)) rfl, by decide +kernel⟩, gd_mem (List.mem_of_getElem? (i := 426) (by decide +kernel)) rfl⟩
theorem lX2_46 : MLS RX2 46 mX3_of 2 := ⟨⟨Or.inl (gd_mem (List.mem_of_getElem? (i := 520) (by decide +kernel)) rfl), gd_mem (List.mem_of_getElem? (i := 63) (by decide +kernel)) rfl, gd_mem (List.mem_of_getElem? (i := 157) (by decide +kernel)) rfl, by decide +kernel⟩, gd_mem (List.mem_of_getElem? (i := 156) (by decide +kernel)) rfl⟩
theorem lX2_50 : MLV RX2 50 mX2_meantBy 1 2 := ⟨⟨Or.inl (gd_mem (List.mem_of_getElem? (i := 432) (by decide +kernel)) rfl), gd_mem (List.mem_of_getElem? (i := 61) (by decide +kernel)) rfl, gd_mem (List.mem_of_getElem? (i := 435) (by decide +kernel)) rfl, by decide +kernel⟩, by decide, rfl, gd_mem (List.mem_of_getElem? (i := 433) (by decide +kernel)) rfl, gd_mem (List.mem_of_getElem? (i := 434) (by decide +kernel)) rfl⟩
theorem lX2_54 : MLV RX2 54 mX2_startPlan 0 2 := ⟨⟨Or.inl (gd_mem (List.mem_of_getElem? (i := 458) (by decide +kernel)) rfl), gd_mem (List.mem_of_getElem? (i := 61) (by decide +kernel)) rfl, gd_mem (List.mem_of_getElem? (i := 461) (by decide +kernel)) rfl, by decide +kernel⟩, by decide, rfl, gd_mem (List.mem_of_getElem? (i := 460) (by decide +kernel)) rfl, gd_mem (List.mem_of_getElem? (i := 10) (by decide +kernel)) rfl⟩
theorem lX2_57 : MLV RX2 57 mX2_planRing 1 2 := ⟨⟨Or.inl (gd_mem (List.mem_of_getElem? (i := 462) (by decide +kernel)) rfl), gd_mem (List.mem_of_getElem? (i := 61) (by decide +kernel)) rfl, gd_mem (List.mem_of_getElem? (i := 465) (by decide +kernel)) rfl, by decide +kernel⟩, by decide, rfl, gd_mem (List.mem_of_getElem? (i := 464) (by decide +kernel)) rfl, gd_mem (List.mem_of_getElem? (i := 11) (by decide +kernel)) rfl⟩
theorem lX2_61 : MLV RX2 61 mX2_planEach 2 2 := ⟨⟨Or.inl (gd_mem (List.mem_of_getElem? (i := 472) (by decide +kernel)) rfl), gd_mem (List.mem_of_getElem? (i := 61) (by decide +kernel)) rfl, gd_mem (List.mem_of_getElem? (i := 475) (by decide +kernel)) rfl, by decide +kernel⟩, by decide, rfl, gd_mem (List.mem_of_getElem? (i := 474) (by decide +kernel)) rfl, gd_mem (List.mem_of_getElem? (i := 13) (by decide +kernel)) rfl⟩
theorem lX2_65 : MLV RX2 65 mX2_planPairs 2 2 := ⟨⟨Or.inl (gd_mem (List.mem_of_getElem? (i := 483) (by decide +kernel)) rfl), gd_mem (List.mem_of_getElem? (i := 61) (by decide +kernel)) rfl, gd_mem (List.mem_of_getElem? (i := 486) (by decide +kernel)) rfl, by decide +kernel⟩, by decide, rfl, gd_mem (List.mem_of_getElem? (i := 485) (by decide +kernel)) rfl, gd_mem (List.mem_of_getElem? (i := 15) (by decide +kernel)) rfl⟩
theorem lX2_68 : MLV RX2 68 mX2_someFall 0 2 := ⟨⟨Or.inl (gd_mem (List.mem_of_getElem? (i := 499) (by decide +kernel)) rfl), gd_mem (List.mem_of_getElem? (i := 61) (by decide +kernel)) rfl, gd_mem (List.mem_of_getElem? (i := 502) (by decide +kernel)) rfl, by decide +kernel⟩, by decide, rfl, gd_mem (List.mem_of_getElem? (i := 501) (by decide +kernel)) rfl, gd_mem (List.mem_of_getElem? (i := 19) (by decide +kernel)) rfl⟩
theorem lX2_72 : MLV RX2 72 mX2_isRing 0 2 := ⟨⟨Or.inl (gd_mem (List.mem_of_getElem? (i := 466) (by decide +kernel)) rfl), gd_mem (List.mem_of_getElem? (i := 61) (by decide +kernel)) rfl, gd_mem (List.mem_of_getElem? (i := 469) (by decide +kernel)) rfl, by decide +kernel⟩, by decide, rfl, gd_mem (List.mem_of_getElem? (i := 468) (by decide +kernel)) rfl, gd_mem (List.mem_of_getElem? (i := 12) (by decide +kernel)) rfl⟩
theorem lX2_81 : MLS RX2 81 mX2_isIn 2 := ⟨⟨Or.inl (gd_mem (List.mem_of_getElem? (i := 476) (by decide +kernel)) rfl), gd_mem (List.mem_of_getElem? (i := 61) (by decide +kernel)) rfl, gd_mem (List.mem_of_getElem? (i := 478) (by decide +kernel)) rfl, by decide +kernel⟩, gd_mem (List.mem_of_getElem? (i := 477) (by decide +kernel)) rfl⟩
theorem lX2_85 : MLS RX2 85 mX2_neighbour 2 := ⟨⟨Or.inl (gd_mem (List.mem_of_getElem? (i := 447) (by decide +kernel)) rfl), gd_mem (List.mem_of_getElem? (i := 61) (by decide +kernel)) rfl, gd_mem (List.mem_of_getElem? (i := 449) (by decide +kernel)) rfl, by decide +kernel⟩, gd_mem (List.mem_of_getElem? (i := 448) (by decide +kernel)) rfl⟩
theorem lX2_89 : MLV RX2 89 mX2_turn 2 2 := ⟨⟨Or.inl (gd_mem (List.mem_of_getElem? (i := 479) (by decide +kernel)) rfl), gd_mem (List.mem_of_getElem? (i := 61) (by decide +kernel)) rfl, gd_mem (List.mem_of_getElem? (i := 482) (by decide +kernel)) rfl, by decide +kernel⟩, by decide, rfl, gd_mem (List.mem_of_getElem? (i := 481) (by decide +kernel)) rfl, gd_mem (List.mem_of_getElem? (i := 14) (by decide +kernel)) rfl⟩
theorem lX2_92 : MLV RX2 92 mX2_partnerOf 3 2 := ⟨⟨Or.inl (gd_mem (List.mem_of_getElem? (i := 487) (by decide +kernel)) rfl), gd_mem (List.mem_of_getElem? (i := 61) (by decide +kernel)) rfl, gd_mem (List.mem_of_getElem? (i := 490) (by decide +kernel)) rfl, by decide +kernel⟩, by decide, rfl, gd_mem (List.mem_of_getElem? (i := 489) (by decide +kernel)) rfl, gd_mem (List.mem_of_getElem? (i := 16) (by decide +kernel)) rfl⟩
theorem lX2_96 : MLV RX2 96 mX2_planFold 2 2 := ⟨⟨Or.inl (gd_mem (List.mem_of_getElem? (i := 491) (by decide +kernel)) rfl), gd_mem (List.mem_of_getElem? (i := 61) (by decide +kernel)) rfl, gd_mem (List.mem_of_getElem? (i := 494) (by decide +kernel)) rfl, by decide +kernel⟩, by decide, rfl, gd_mem (List.mem_of_getElem? (i := 493) (by decide +kernel)) rfl, gd_mem (List.mem_of_getElem? (i := 17) (by decide +kernel)) rfl⟩
theorem lX2_99 : MLV RX2 99 mX2_planChange 3 2 := ⟨⟨Or.inl (gd_mem (List.mem_of_getElem? (i := 495) (by decide +kernel)) rfl), gd_mem (List.mem_of_getElem? (i := 61) (by decide +kernel)) rfl, gd_mem (List.mem_of_getElem? (i := 498) (by decide +kernel)) rfl, by decide +kernel⟩, by decide, rfl, gd_mem (List.mem_of_getElem? (i := 497) (by decide +kernel)) rfl, gd_mem (List.mem_of_getElem? (i := 18) (by decide +kernel)) rfl⟩
theorem lX2_103 : MLV RX2 103 mX2_beside 2 2 := ⟨⟨Or.inl (gd_mem (List.mem_of_getElem? (i := 443) (by decide +kernel)) rfl), gd_mem (List.mem_of_getElem? (i := 61) (by decide +kernel)) rfl, gd_mem (List.mem_of_getElem? (i := 446) (by decide +kernel)) rfl, by decide +kernel⟩, by decide, rfl, gd_mem (List.mem_of_getElem? (i := 444) (by decide +kernel)) rfl, gd_mem (List.mem_of_getElem? (i := 445) (by decide +kernel)) rfl⟩
theorem lX2_106 : MLV RX2 106 mX2_goes 1 2 := ⟨⟨Or.inl (gd_mem (List.mem_of_getElem? (i := 503) (by decide +kernel)) rfl), gd_mem (List.mem_of_getElem? (i := 61) (by decide +kernel)) rfl, gd_mem (List.mem_of_getElem? (i := 506) (by decide +kernel)) rfl, by decide +kernel⟩, by decide, rfl, gd_mem (List.mem_of_getElem? (i := 505) (by decide +kernel)) rfl, gd_mem (List.mem_of_getElem? (i := 20) (by decide +kernel)) rfl⟩
theorem lX2_110 : MLV RX2 110 mX2_whyFalls 1 2 := ⟨⟨Or.inl (gd_mem (List.mem_of_getElem? (i := 507) (by decide +kernel)) rfl), gd_mem (List.mem_of_getElem? (i := 61) (by decide +kernel)) rfl, gd_mem (List.mem_of_getElem? (i := 510) (by decide +kernel)) rfl, by decide +kernel⟩, by decide, rfl, gd_mem (List.mem_of_getElem? (i := 509) (by decide +kernel)) rfl, gd_mem (List.mem_of_getElem? (i := 21) (by decide +kernel)) rfl⟩
theorem lX2_113 : MLV RX2 113 mX2_isMeant 2 2 := ⟨⟨Or.inl (gd_mem (List.mem_of_getElem? (i := 436) (by decide +kernel)) rfl), gd_mem (List.mem_of_getElem? (i := 61) (by decide +kernel)) rfl, gd_mem (List.mem_of_getElem? (i := 439) (by decide +kernel)) rfl, by decide +kernel⟩, by decide, rfl, gd_mem (List.mem_of_getElem? (i := 438) (by decide +kernel)) rfl, gd_mem (List.mem_of_getElem? (i := 8) (by decide +kernel)) rfl⟩
theorem lX2_116 : MLS RX2 116 mX2_isCenter 1 := ⟨⟨Or.inl (gd_mem (List.mem_of_getElem? (i := 440) (by decide +kernel)) rfl), gd_mem (List.mem_of_getElem? (i := 61) (by decide +kernel)) rfl, gd_mem (List.mem_of_getElem? (i := 442) (by decide +kernel)) rfl, by decide +kernel⟩, gd_mem (List.mem_of_getElem? (i := 441) (by decide +kernel)) rfl⟩
theorem lX2_119 : MLV RX2 119 mX2_facesLike 2 2 := ⟨⟨Or.inl (gd_mem (List.mem_of_getElem? (i := 454) (by decide +kernel)) rfl), gd_mem (List.mem_of_getElem? (i := 61) (by decide +kernel)) rfl, gd_mem (List.mem_of_getElem? (i := 457) (by decide +kernel)) rfl, by decide +kernel⟩, by decide, rfl, gd_mem (List.mem_of_getElem? (i := 456) (by decide +kernel)) rfl, gd_mem (List.mem_of_getElem? (i := 9) (by decide +kernel)) rfl⟩
theorem lX3_11 : MLS RX3 11 mX3_bits 3 := ⟨⟨Or.inl (gd_mem (List.mem_of_getElem? (i := 158) (by decide +kernel)) rfl), gd_mem (List.mem_of_getElem? (i := 63) (by decide +kernel)) rfl, gd_mem (List.mem_of_getElem? (i := 160) (by decide +kernel)) rfl, by decide +kernel⟩, gd_mem (List.mem_of_getElem? (i := 159) (by decide +kernel)) rfl⟩
theorem lX3_22 : MLS RX3 22 mX3_of 2 := ⟨⟨Or.inl (gd_mem (List.mem_of_getElem? (i := 155) (by decide +kernel)) rfl), gd_mem (List.mem_of_getElem? (i := 63) (by decide +kernel)) rfl, gd_mem (List.mem_of_getElem? (i := 157) (by decide +kernel)) rfl, by decide +kernel⟩, gd_mem (List.mem_of_getElem? (i := 156) (by decide +kernel)) rfl⟩
theorem lX3_26 : MLS RX3 26 mX3_cellOf 2 := ⟨⟨Or.inl (gd_mem (List.mem_of_getElem? (i := 648) (by decide +kernel)) rfl), gd_mem (List.mem_of_getElem? (i := 63) (by decide +kernel)) rfl, gd_mem (List.mem_of_getElem? (i := 424) (by decide +kernel)) rfl, by decide +kernel⟩, gd_mem (List.mem_of_getElem? (i := 423) (by decide +kernel)) rfl⟩
theorem lX3_30 : MLS RX3 30 mX3_facingOf 2 := ⟨⟨Or.inl (gd_mem (List.mem_of_getElem? (i := 649) (by decide +kernel)) rfl), gd_mem (List.mem_of_getElem? (i := 63) (by decide +kernel)) rfl, gd_mem (List.mem_of_getElem? (i := 427) (by decide +kernel)) rfl, by decide +kernel⟩, gd_mem (List.mem_of_getElem? (i := 426) (by decide +kernel)) rfl⟩
theorem lX3_33 : MLS RX3 33 mX3_turned 2 := ⟨⟨Or.inl (gd_mem (List.mem_of_getElem? (i := 661) (by decide +kernel)) rfl), gd_mem (List.mem_of_getElem? (i := 63) (by decide +kernel)) rfl, gd_mem (List.mem_of_getElem? (i := 647) (by decide +kernel)) rfl, by decide +kernel⟩, gd_mem (List.mem_of_getElem? (i := 646) (by decide +kernel)) rfl⟩
theorem fX4_9 : FL RX4 9 3 0 := ⟨by decide, by decide, Or.inl (gd_mem (List.mem_of_getElem? (i := 242) (by decide +kernel)) rfl)⟩
theorem fX4_15 : FL RX4 15 3 1 := ⟨by decide, by decide, Or.inl (gd_mem (List.mem_of_getElem? (i := 243) (by decide +kernel)) rfl)⟩
theorem fX4_18 : FL RX4 18 3 2 := ⟨by decide, by decide, Or.inl (gd_mem (List.mem_of_getElem? (i := 245) (by decide +kernel)) rfl)⟩
theorem fX4_21 : FL RX4 21 0 3 := ⟨by decide, by decide, Or.inr ⟨"SquareCaller", ns_mem (List.mem_of_getElem? (i := 165) (by decide +kernel)) rfl⟩⟩
theorem lX4_26 : MLV RX4 26 mX0_sameFrom 1 0 := ⟨⟨Or.inl (gd_mem (List.mem_of_getElem? (i := 674) (by decide +kernel)) rfl), gd_mem (List.mem_of_getElem? (i := 62) (by decide +kernel)) rfl, gd_mem (List.mem_of_getElem? (i := 677) (by decide +kernel)) rfl, by decide +kernel⟩, by decide, rfl, gd_mem (List.mem_of_getElem? (i := 675) (by decide +kernel)) rfl, gd_mem (List.mem_of_getElem? (i := 676) (by decide +kernel)) rfl⟩
theorem lX4_30 : MLV RX4 30 mX4_put 1 3 := ⟨⟨Or.inl (gd_mem (List.mem_of_getElem? (i := 679) (by decide +kernel)) rfl), gd_mem (List.mem_of_getElem? (i := 66) (by decide +kernel)) rfl, gd_mem (List.mem_of_getElem? (i := 682) (by decide +kernel)) rfl, by decide +kernel⟩, by decide, rfl, gd_mem (List.mem_of_getElem? (i := 681) (by decide +kernel)) rfl, gd_mem (List.mem_of_getElem? (i := 27) (by decide +kernel)) rfl⟩
theorem lX4_34 : MLV RX4 34 mX0_codeAt 1 0 := ⟨⟨Or.inl (gd_mem (List.mem_of_getElem? (i := 683) (by decide +kernel)) rfl), gd_mem (List.mem_of_getElem? (i := 62) (by decide +kernel)) rfl, gd_mem (List.mem_of_getElem? (i := 561) (by decide +kernel)) rfl, by decide +kernel⟩, by decide, rfl, gd_mem (List.mem_of_getElem? (i := 559) (by decide +kernel)) rfl, gd_mem (List.mem_of_getElem? (i := 560) (by decide +kernel)) rfl⟩
theorem lX4_37 : MLV RX4 37 mX4_writeCall 2 3 := ⟨⟨Or.inl (gd_mem (List.mem_of_getElem? (i := 684) (by decide +kernel)) rfl), gd_mem (List.mem_of_getElem? (i := 66) (by decide +kernel)) rfl, gd_mem (List.mem_of_getElem? (i := 687) (by decide +kernel)) rfl, by decide +kernel⟩, by decide, rfl, gd_mem (List.mem_of_getElem? (i := 686) (by decide +kernel)) rfl, gd_mem (List.mem_of_getElem? (i := 28) (by decide +kernel)) rfl⟩
theorem lX4_41 : MLS RX4 41 mX7_ofWho 1 := ⟨⟨Or.inl (gd_mem (List.mem_of_getElem? (i := 688) (by decide +kernel)) rfl), gd_mem (List.mem_of_getElem? (i := 68) (by decide +kernel)) rfl, gd_mem (List.mem_of_getElem? (i := 392) (by decide +kernel)) rfl, by decide +kernel⟩, gd_mem (List.mem_of_getElem? (i := 391) (by decide +kernel)) rfl⟩
theorem lX4_47 : MLV RX4 47 mX4_putWord 1 3 := ⟨⟨Or.inl (gd_mem (List.mem_of_getElem? (i := 689) (by decide +kernel)) rfl), gd_mem (List.mem_of_getElem? (i := 66) (by decide +kernel)) rfl, gd_mem (List.mem_of_getElem? (i := 692) (by decide +kernel)) rfl, by decide +kernel⟩, by decide, rfl, gd_mem (List.mem_of_getElem? (i := 691) (by decide +kernel)) rfl, gd_mem (List.mem_of_getElem? (i := 29) (by decide +kernel)) rfl⟩
theorem lX4_51 : MLS RX4 51 mX7_ofFigure 1 := ⟨⟨Or.inl (gd_mem (List.mem_of_getElem? (i := 695) (by decide +kernel)) rfl), gd_mem (List.mem_of_getElem? (i := 68) (by decide +kernel)) rfl, gd_mem (List.mem_of_getElem? (i := 320) (by decide +kernel)) rfl, by decide +kernel⟩, gd_mem (List.mem_of_getElem? (i := 319) (by decide +kernel)) rfl⟩
theorem fX5_11 : FL RX5 11 4 0 := ⟨by decide, by decide, Or.inl (gd_mem (List.mem_of_getElem? (i := 89) (by decide +kernel)) rfl)⟩
theorem fX5_15 : FL RX5 15 4 1 := ⟨by decide, by decide, Or.inl (gd_mem (List.mem_of_getElem? (i := 90) (by decide +kernel)) rfl)⟩
theorem fX5_19 : FL RX5 19 4 2 := ⟨by decide, by decide, Or.inl (gd_mem (List.mem_of_getElem? (i := 92) (by decide +kernel)) rfl)⟩
theorem fX5_22 : FL RX5 22 4 3 := ⟨by decide, by decide, Or.inl (gd_mem (List.mem_of_getElem? (i := 93) (by decide +kernel)) rfl)⟩
theorem lX5_25 : MLV RX5 25 mX5_readText 0 4 := ⟨⟨Or.inl (gd_mem (List.mem_of_getElem? (i := 298) (by decide +kernel)) rfl), gd_mem (List.mem_of_getElem? (i := 60) (by decide +kernel)) rfl, gd_mem (List.mem_of_getElem? (i := 301) (by decide +kernel)) rfl, by decide +kernel⟩, by decide, rfl, gd_mem (List.mem_of_getElem? (i := 300) (by decide +kernel)) rfl, gd_mem (List.mem_of_getElem? (i := 0) (by decide +kernel)) rfl⟩
theorem lX5_29 : MLV RX5 29 mX5_readCall 1 4 := ⟨⟨Or.inl (gd_mem (List.mem_of_getElem? (i := 302) (by decide +kernel)) rfl), gd_mem (List.mem_of_getElem? (i := 60) (by decide +kernel)) rfl, gd_mem (List.mem_of_getElem? (i := 305) (by decide +kernel)) rfl, by decide +kernel⟩, by decide, rfl, gd_mem (List.mem_of_getElem? (i := 304) (by decide +kernel)) rfl, gd_mem (List.mem_of_getElem? (i := 1) (by decide +kernel)) rfl⟩
theorem lX5_33 : MLV RX5 33 mX5_byteAt 1 4 := ⟨⟨Or.inl (gd_mem (List.mem_of_getElem? (i := 310) (by decide +kernel)) rfl), gd_mem (List.mem_of_getElem? (i := 60) (by decide +kernel)) rfl, gd_mem (List.mem_of_getElem? (i := 313) (by decide +kernel)) rfl, by decide +kernel⟩, by decide, rfl, gd_mem (List.mem_of_getElem? (i := 312) (by decide +kernel)) rfl, gd_mem (List.mem_of_getElem? (i := 3) (by decide +kernel)) rfl⟩
theorem lX5_36 : MLV RX5 36 mX5_wordEnd 1 4 := ⟨⟨Or.inl (gd_mem (List.mem_of_getElem? (i := 306) (by decide +kernel)) rfl), gd_mem (List.mem_of_getElem? (i := 60) (by decide +kernel)) rfl, gd_mem (List.mem_of_getElem? (i := 309) (by decide +kernel)) rfl, by decide +kernel⟩, by decide, rfl, gd_mem (List.mem_of_getElem? (i := 308) (by decide +kernel)) rfl, gd_mem (List.mem_of_getElem? (i := 2) (by decide +kernel)) rfl⟩
theorem lX5_39 : MLV RX5 39 mX5_figureIn 2 4 := ⟨⟨Or.inl (gd_mem (List.mem_of_getElem? (i := 314) (by decide +kernel)) rfl), gd_mem (List.mem_of_getElem? (i := 60) (by decide +kernel)) rfl, gd_mem (List.mem_of_getElem? (i := 317) (by decide +kernel)) rfl, by decide +kernel⟩, by decide, rfl, gd_mem (List.mem_of_getElem? (i := 316) (by decide +kernel)) rfl, gd_mem (List.mem_of_getElem? (i := 4) (by decide +kernel)) rfl⟩
theorem lX5_43 : MLV RX5 43 mX5_whoIn 2 4 := ⟨⟨Or.inl (gd_mem (List.mem_of_getElem? (i := 386) (by decide +kernel)) rfl), gd_mem (List.mem_of_getElem? (i := 60) (by decide +kernel)) rfl, gd_mem (List.mem_of_getElem? (i := 389) (by decide +kernel)) rfl, by decide +kernel⟩, by decide, rfl, gd_mem (List.mem_of_getElem? (i := 388) (by decide +kernel)) rfl, gd_mem (List.mem_of_getElem? (i := 6) (by decide +kernel)) rfl⟩
theorem lX5_46 : MLV RX5 46 mX5_addCalls 2 4 := ⟨⟨Or.inl (gd_mem (List.mem_of_getElem? (i := 402) (by decide +kernel)) rfl), gd_mem (List.mem_of_getElem? (i := 60) (by decide +kernel)) rfl, gd_mem (List.mem_of_getElem? (i := 405) (by decide +kernel)) rfl, by decide +kernel⟩, by decide, rfl, gd_mem (List.mem_of_getElem? (i := 404) (by decide +kernel)) rfl, gd_mem (List.mem_of_getElem? (i := 7) (by decide +kernel)) rfl⟩
theorem lX5_50 : MLS RX5 50 mX7_ofWho 1 := ⟨⟨Or.inl (gd_mem (List.mem_of_getElem? (i := 390) (by decide +kernel)) rfl), gd_mem (List.mem_of_getElem? (i := 68) (by decide +kernel)) rfl, gd_mem (List.mem_of_getElem? (i := 392) (by decide +kernel)) rfl, by decide +kernel⟩, gd_mem (List.mem_of_getElem? (i := 391) (by decide +kernel)) rfl⟩
theorem lX5_56 : MLV RX5 56 mX5_isWord 3 4 := ⟨⟨Or.inl (gd_mem (List.mem_of_getElem? (i := 334) (by decide +kernel)) rfl), gd_mem (List.mem_of_getElem? (i := 60) (by decide +kernel)) rfl, gd_mem (List.mem_of_getElem? (i := 337) (by decide +kernel)) rfl, by decide +kernel⟩, by decide, rfl, gd_mem (List.mem_of_getElem? (i := 336) (by decide +kernel)) rfl, gd_mem (List.mem_of_getElem? (i := 5) (by decide +kernel)) rfl⟩
theorem lX5_60 : MLS RX5 60 mX7_ofFigure 1 := ⟨⟨Or.inl (gd_mem (List.mem_of_getElem? (i := 318) (by decide +kernel)) rfl), gd_mem (List.mem_of_getElem? (i := 68) (by decide +kernel)) rfl, gd_mem (List.mem_of_getElem? (i := 320) (by decide +kernel)) rfl, by decide +kernel⟩, gd_mem (List.mem_of_getElem? (i := 319) (by decide +kernel)) rfl⟩
theorem lX6_9 : MLS RX6 9 mX3_atFirst 0 := ⟨⟨Or.inl (gd_mem (List.mem_of_getElem? (i := 205) (by decide +kernel)) rfl), gd_mem (List.mem_of_getElem? (i := 63) (by decide +kernel)) rfl, gd_mem (List.mem_of_getElem? (i := 150) (by decide +kernel)) rfl, by decide +kernel⟩, gd_mem (List.mem_of_getElem? (i := 149) (by decide +kernel)) rfl⟩
theorem fX6_15 : FL RX6 15 5 1 := ⟨by decide, by decide, Or.inl (gd_mem (List.mem_of_getElem? (i := 207) (by decide +kernel)) rfl)⟩
theorem fX6_21 : FL RX6 21 5 2 := ⟨by decide, by decide, Or.inl (gd_mem (List.mem_of_getElem? (i := 208) (by decide +kernel)) rfl)⟩
theorem fX6_25 : FL RX6 25 5 3 := ⟨by decide, by decide, Or.inl (gd_mem (List.mem_of_getElem? (i := 209) (by decide +kernel)) rfl)⟩
theorem fX6_29 : FL RX6 29 5 4 := ⟨by decide, by decide, Or.inl (gd_mem (List.mem_of_getElem? (i := 210) (by decide +kernel)) rfl)⟩
theorem fX6_32 : FL RX6 32 5 5 := ⟨by decide, by decide, Or.inl (gd_mem (List.mem_of_getElem? (i := 211) (by decide +kernel)) rfl)⟩
theorem fX6_36 : FL RX6 36 5 6 := ⟨by decide, by decide, Or.inl (gd_mem (List.mem_of_getElem? (i := 212) (by decide +kernel)) rfl)⟩
theorem fX6_39 : FL RX6 39 5 7 := ⟨by decide, by decide, Or.inl (gd_mem (List.mem_of_getElem? (i := 213) (by decide +kernel)) rfl)⟩
theorem fX6_42 : FL RX6 42 5 8 := ⟨by decide, by decide, Or.inl (gd_mem (List.mem_of_getElem? (i := 215) (by decide +kernel)) rfl)⟩
theorem fX6_45 : FL RX6 45 5 0 := ⟨by decide, by decide, Or.inl (gd_mem (List.mem_of_getElem? (i := 206) (by decide +kernel)) rfl)⟩
theorem lX6_49 : MLV RX6 49 mX6_add 3 5 := ⟨⟨Or.inl (gd_mem (List.mem_of_getElem? (i := 607) (by decide +kernel)) rfl), gd_mem (List.mem_of_getElem? (i := 65) (by decide +kernel)) rfl, gd_mem (List.mem_of_getElem? (i := 610) (by decide +kernel)) rfl, by decide +kernel⟩, by decide, rfl, gd_mem (List.mem_of_getElem? (i := 609) (by decide +kernel)) rfl, gd_mem (List.mem_of_getElem? (i := 23) (by decide +kernel)) rfl⟩
theorem lX6_53 : MLV RX6 53 mX2_load 1 2 := ⟨⟨Or.inl (gd_mem (List.mem_of_getElem? (i := 611) (by decide +kernel)) rfl), gd_mem (List.mem_of_getElem? (i := 61) (by decide +kernel)) rfl, gd_mem (List.mem_of_getElem? (i := 421) (by decide +kernel)) rfl, by decide +kernel⟩, by decide, rfl, gd_mem (List.mem_of_getElem? (i := 419) (by decide +kernel)) rfl, gd_mem (List.mem_of_getElem? (i := 420) (by decide +kernel)) rfl⟩
theorem lX6_59 : MLV RX6 59 mX2_plan 1 2 := ⟨⟨Or.inl (gd_mem (List.mem_of_getElem? (i := 612) (by decide +kernel)) rfl), gd_mem (List.mem_of_getElem? (i := 61) (by decide +kernel)) rfl, gd_mem (List.mem_of_getElem? (i := 431) (by decide +kernel)) rfl, by decide +kernel⟩, by decide, rfl, gd_mem (List.mem_of_getElem? (i := 429) (by decide +kernel)) rfl, gd_mem (List.mem_of_getElem? (i := 430) (by decide +kernel)) rfl⟩
theorem lX6_63 : MLV RX6 63 mX2_planned 0 2 := ⟨⟨Or.inl (gd_mem (List.mem_of_getElem? (i := 613) (by decide +kernel)) rfl), gd_mem (List.mem_of_getElem? (i := 61) (by decide +kernel)) rfl, gd_mem (List.mem_of_getElem? (i := 519) (by decide +kernel)) rfl, by decide +kernel⟩, by decide, rfl, gd_mem (List.mem_of_getElem? (i := 517) (by decide +kernel)) rfl, gd_mem (List.mem_of_getElem? (i := 518) (by decide +kernel)) rfl⟩
theorem lX6_66 : MLV RX6 66 mX6_comeTo 3 5 := ⟨⟨Or.inl (gd_mem (List.mem_of_getElem? (i := 614) (by decide +kernel)) rfl), gd_mem (List.mem_of_getElem? (i := 65) (by decide +kernel)) rfl, gd_mem (List.mem_of_getElem? (i := 617) (by decide +kernel)) rfl, by decide +kernel⟩, by decide, rfl, gd_mem (List.mem_of_getElem? (i := 616) (by decide +kernel)) rfl, gd_mem (List.mem_of_getElem? (i := 24) (by decide +kernel)) rfl⟩
theorem lX6_70 : MLV RX6 70 mX6_trace 2 5 := ⟨⟨Or.inl (gd_mem (List.mem_of_getElem? (i := 618) (by decide +kernel)) rfl), gd_mem (List.mem_of_getElem? (i := 65) (by decide +kernel)) rfl, gd_mem (List.mem_of_getElem? (i := 621) (by decide +kernel)) rfl, by decide +kernel⟩, by decide, rfl, gd_mem (List.mem_of_getElem? (i := 620) (by decide +kernel)) rfl, gd_mem (List.mem_of_getElem? (i := 25) (by decide +kernel)) rfl⟩
theorem lX6_74 : MLS RX6 74 mX3_isAmong 3 := ⟨⟨Or.inl (gd_mem (List.mem_of_getElem? (i := 622) (by decide +kernel)) rfl), gd_mem (List.mem_of_getElem? (i := 63) (by decide +kernel)) rfl, gd_mem (List.mem_of_getElem? (i := 624) (by decide +kernel)) rfl, by decide +kernel⟩, gd_mem (List.mem_of_getElem? (i := 623) (by decide +kernel)) rfl⟩
theorem lL_13 : MLV RL 13 mX8_feed 1 6 := ⟨⟨Or.inl (gd_mem (List.mem_of_getElem? (i := 282) (by decide +kernel)) rfl), gd_mem (List.mem_of_getElem? (i := 59) (by decide +kernel)) rfl, gd_mem (List.mem_of_getElem? (i := 285) (by decide +kernel)) rfl, by decide +kernel⟩, by decide, rfl, gd_mem (List.mem_of_getElem? (i := 283) (by decide +kernel)) rfl, gd_mem (List.mem_of_getElem? (i := 284) (by decide +kernel)) rfl⟩
theorem lL_17 : MLV RL 17 mX9_feed 1 7 := ⟨⟨Or.inl (gd_mem (List.mem_of_getElem? (i := 877) (by decide +kernel)) rfl), gd_mem (List.mem_of_getElem? (i := 67) (by decide +kernel)) rfl, gd_mem (List.mem_of_getElem? (i := 880) (by decide +kernel)) rfl, by decide +kernel⟩, by decide, rfl, gd_mem (List.mem_of_getElem? (i := 878) (by decide +kernel)) rfl, gd_mem (List.mem_of_getElem? (i := 879) (by decide +kernel)) rfl⟩
theorem lL_18 : MLV RL 18 mX8_dance 0 6 := ⟨⟨Or.inl (gd_mem (List.mem_of_getElem? (i := 290) (by decide +kernel)) rfl), gd_mem (List.mem_of_getElem? (i := 59) (by decide +kernel)) rfl, gd_mem (List.mem_of_getElem? (i := 293) (by decide +kernel)) rfl, by decide +kernel⟩, by decide, rfl, gd_mem (List.mem_of_getElem? (i := 291) (by decide +kernel)) rfl, gd_mem (List.mem_of_getElem? (i := 292) (by decide +kernel)) rfl⟩
theorem lL_22 : MLV RL 22 mX9_dance 0 7 := ⟨⟨Or.inl (gd_mem (List.mem_of_getElem? (i := 884) (by decide +kernel)) rfl), gd_mem (List.mem_of_getElem? (i := 67) (by decide +kernel)) rfl, gd_mem (List.mem_of_getElem? (i := 887) (by decide +kernel)) rfl, by decide +kernel⟩, by decide, rfl, gd_mem (List.mem_of_getElem? (i := 885) (by decide +kernel)) rfl, gd_mem (List.mem_of_getElem? (i := 886) (by decide +kernel)) rfl⟩
theorem lL_23 : MLV RL 23 mX8_fall 1 6 := ⟨⟨Or.inl (gd_mem (List.mem_of_getElem? (i := 530) (by decide +kernel)) rfl), gd_mem (List.mem_of_getElem? (i := 59) (by decide +kernel)) rfl, gd_mem (List.mem_of_getElem? (i := 533) (by decide +kernel)) rfl, by decide +kernel⟩, by decide, rfl, gd_mem (List.mem_of_getElem? (i := 531) (by decide +kernel)) rfl, gd_mem (List.mem_of_getElem? (i := 532) (by decide +kernel)) rfl⟩
theorem lL_26 : MLV RL 26 mX9_fall 1 7 := ⟨⟨Or.inl (gd_mem (List.mem_of_getElem? (i := 988) (by decide +kernel)) rfl), gd_mem (List.mem_of_getElem? (i := 67) (by decide +kernel)) rfl, gd_mem (List.mem_of_getElem? (i := 991) (by decide +kernel)) rfl, by decide +kernel⟩, by decide, rfl, gd_mem (List.mem_of_getElem? (i := 989) (by decide +kernel)) rfl, gd_mem (List.mem_of_getElem? (i := 990) (by decide +kernel)) rfl⟩
theorem lL_27 : MLV RL 27 mX8_would 0 6 := ⟨⟨Or.inl (gd_mem (List.mem_of_getElem? (i := 538) (by decide +kernel)) rfl), gd_mem (List.mem_of_getElem? (i := 59) (by decide +kernel)) rfl, gd_mem (List.mem_of_getElem? (i := 541) (by decide +kernel)) rfl, by decide +kernel⟩, by decide, rfl, gd_mem (List.mem_of_getElem? (i := 539) (by decide +kernel)) rfl, gd_mem (List.mem_of_getElem? (i := 540) (by decide +kernel)) rfl⟩
theorem lL_30 : MLV RL 30 mX9_would 0 7 := ⟨⟨Or.inl (gd_mem (List.mem_of_getElem? (i := 992) (by decide +kernel)) rfl), gd_mem (List.mem_of_getElem? (i := 67) (by decide +kernel)) rfl, gd_mem (List.mem_of_getElem? (i := 995) (by decide +kernel)) rfl, by decide +kernel⟩, by decide, rfl, gd_mem (List.mem_of_getElem? (i := 993) (by decide +kernel)) rfl, gd_mem (List.mem_of_getElem? (i := 994) (by decide +kernel)) rfl⟩
theorem lL_31 : MLV RL 31 mX8_undo 0 6 := ⟨⟨Or.inl (gd_mem (List.mem_of_getElem? (i := 542) (by decide +kernel)) rfl), gd_mem (List.mem_of_getElem? (i := 59) (by decide +kernel)) rfl, gd_mem (List.mem_of_getElem? (i := 545) (by decide +kernel)) rfl, by decide +kernel⟩, by decide, rfl, gd_mem (List.mem_of_getElem? (i := 543) (by decide +kernel)) rfl, gd_mem (List.mem_of_getElem? (i := 544) (by decide +kernel)) rfl⟩
theorem lL_34 : MLV RL 34 mX9_undo 0 7 := ⟨⟨Or.inl (gd_mem (List.mem_of_getElem? (i := 996) (by decide +kernel)) rfl), gd_mem (List.mem_of_getElem? (i := 67) (by decide +kernel)) rfl, gd_mem (List.mem_of_getElem? (i := 999) (by decide +kernel)) rfl, by decide +kernel⟩, by decide, rfl, gd_mem (List.mem_of_getElem? (i := 997) (by decide +kernel)) rfl, gd_mem (List.mem_of_getElem? (i := 998) (by decide +kernel)) rfl⟩
theorem lL_35 : MLV RL 35 mX8_redo 0 6 := ⟨⟨Or.inl (gd_mem (List.mem_of_getElem? (i := 550) (by decide +kernel)) rfl), gd_mem (List.mem_of_getElem? (i := 59) (by decide +kernel)) rfl, gd_mem (List.mem_of_getElem? (i := 553) (by decide +kernel)) rfl, by decide +kernel⟩, by decide, rfl, gd_mem (List.mem_of_getElem? (i := 551) (by decide +kernel)) rfl, gd_mem (List.mem_of_getElem? (i := 552) (by decide +kernel)) rfl⟩
theorem lL_38 : MLV RL 38 mX9_redo 0 7 := ⟨⟨Or.inl (gd_mem (List.mem_of_getElem? (i := 1000) (by decide +kernel)) rfl), gd_mem (List.mem_of_getElem? (i := 67) (by decide +kernel)) rfl, gd_mem (List.mem_of_getElem? (i := 1003) (by decide +kernel)) rfl, by decide +kernel⟩, by decide, rfl, gd_mem (List.mem_of_getElem? (i := 1001) (by decide +kernel)) rfl, gd_mem (List.mem_of_getElem? (i := 1002) (by decide +kernel)) rfl⟩
theorem lL_39 : MLV RL 39 mX8_home 0 6 := ⟨⟨Or.inl (gd_mem (List.mem_of_getElem? (i := 562) (by decide +kernel)) rfl), gd_mem (List.mem_of_getElem? (i := 59) (by decide +kernel)) rfl, gd_mem (List.mem_of_getElem? (i := 565) (by decide +kernel)) rfl, by decide +kernel⟩, by decide, rfl, gd_mem (List.mem_of_getElem? (i := 563) (by decide +kernel)) rfl, gd_mem (List.mem_of_getElem? (i := 564) (by decide +kernel)) rfl⟩
theorem lL_42 : MLV RL 42 mX9_home 0 7 := ⟨⟨Or.inl (gd_mem (List.mem_of_getElem? (i := 1004) (by decide +kernel)) rfl), gd_mem (List.mem_of_getElem? (i := 67) (by decide +kernel)) rfl, gd_mem (List.mem_of_getElem? (i := 1007) (by decide +kernel)) rfl, by decide +kernel⟩, by decide, rfl, gd_mem (List.mem_of_getElem? (i := 1005) (by decide +kernel)) rfl, gd_mem (List.mem_of_getElem? (i := 1006) (by decide +kernel)) rfl⟩
theorem lL_43 : MLV RL 43 mX8_at 2 6 := ⟨⟨Or.inl (gd_mem (List.mem_of_getElem? (i := 570) (by decide +kernel)) rfl), gd_mem (List.mem_of_getElem? (i := 59) (by decide +kernel)) rfl, gd_mem (List.mem_of_getElem? (i := 573) (by decide +kernel)) rfl, by decide +kernel⟩, by decide, rfl, gd_mem (List.mem_of_getElem? (i := 571) (by decide +kernel)) rfl, gd_mem (List.mem_of_getElem? (i := 572) (by decide +kernel)) rfl⟩
theorem lL_47 : MLV RL 47 mX9_at 2 7 := ⟨⟨Or.inl (gd_mem (List.mem_of_getElem? (i := 1008) (by decide +kernel)) rfl), gd_mem (List.mem_of_getElem? (i := 67) (by decide +kernel)) rfl, gd_mem (List.mem_of_getElem? (i := 1011) (by decide +kernel)) rfl, by decide +kernel⟩, by decide, rfl, gd_mem (List.mem_of_getElem? (i := 1009) (by decide +kernel)) rfl, gd_mem (List.mem_of_getElem? (i := 1010) (by decide +kernel)) rfl⟩
theorem lL_48 : MLV RL 48 mX8_on 1 6 := ⟨⟨Or.inl (gd_mem (List.mem_of_getElem? (i := 578) (by decide +kernel)) rfl), gd_mem (List.mem_of_getElem? (i := 59) (by decide +kernel)) rfl, gd_mem (List.mem_of_getElem? (i := 581) (by decide +kernel)) rfl, by decide +kernel⟩, by decide, rfl, gd_mem (List.mem_of_getElem? (i := 579) (by decide +kernel)) rfl, gd_mem (List.mem_of_getElem? (i := 580) (by decide +kernel)) rfl⟩
theorem lL_51 : MLV RL 51 mX9_on 1 7 := ⟨⟨Or.inl (gd_mem (List.mem_of_getElem? (i := 1012) (by decide +kernel)) rfl), gd_mem (List.mem_of_getElem? (i := 67) (by decide +kernel)) rfl, gd_mem (List.mem_of_getElem? (i := 1015) (by decide +kernel)) rfl, by decide +kernel⟩, by decide, rfl, gd_mem (List.mem_of_getElem? (i := 1013) (by decide +kernel)) rfl, gd_mem (List.mem_of_getElem? (i := 1014) (by decide +kernel)) rfl⟩
theorem lL_52 : MLV RL 52 mX8_meant 1 6 := ⟨⟨Or.inl (gd_mem (List.mem_of_getElem? (i := 582) (by decide +kernel)) rfl), gd_mem (List.mem_of_getElem? (i := 59) (by decide +kernel)) rfl, gd_mem (List.mem_of_getElem? (i := 585) (by decide +kernel)) rfl, by decide +kernel⟩, by decide, rfl, gd_mem (List.mem_of_getElem? (i := 583) (by decide +kernel)) rfl, gd_mem (List.mem_of_getElem? (i := 584) (by decide +kernel)) rfl⟩
theorem lL_55 : MLV RL 55 mX9_meant 1 7 := ⟨⟨Or.inl (gd_mem (List.mem_of_getElem? (i := 1016) (by decide +kernel)) rfl), gd_mem (List.mem_of_getElem? (i := 67) (by decide +kernel)) rfl, gd_mem (List.mem_of_getElem? (i := 1019) (by decide +kernel)) rfl, by decide +kernel⟩, by decide, rfl, gd_mem (List.mem_of_getElem? (i := 1017) (by decide +kernel)) rfl, gd_mem (List.mem_of_getElem? (i := 1018) (by decide +kernel)) rfl⟩
theorem lL_56 : MLV RL 56 mX8_count 1 6 := ⟨⟨Or.inl (gd_mem (List.mem_of_getElem? (i := 587) (by decide +kernel)) rfl), gd_mem (List.mem_of_getElem? (i := 59) (by decide +kernel)) rfl, gd_mem (List.mem_of_getElem? (i := 590) (by decide +kernel)) rfl, by decide +kernel⟩, by decide, rfl, gd_mem (List.mem_of_getElem? (i := 588) (by decide +kernel)) rfl, gd_mem (List.mem_of_getElem? (i := 589) (by decide +kernel)) rfl⟩
theorem lL_59 : MLV RL 59 mX9_count 1 7 := ⟨⟨Or.inl (gd_mem (List.mem_of_getElem? (i := 1020) (by decide +kernel)) rfl), gd_mem (List.mem_of_getElem? (i := 67) (by decide +kernel)) rfl, gd_mem (List.mem_of_getElem? (i := 1023) (by decide +kernel)) rfl, by decide +kernel⟩, by decide, rfl, gd_mem (List.mem_of_getElem? (i := 1021) (by decide +kernel)) rfl, gd_mem (List.mem_of_getElem? (i := 1022) (by decide +kernel)) rfl⟩
theorem lL_60 : MLV RL 60 mX8_way 1 6 := ⟨⟨Or.inl (gd_mem (List.mem_of_getElem? (i := 599) (by decide +kernel)) rfl), gd_mem (List.mem_of_getElem? (i := 59) (by decide +kernel)) rfl, gd_mem (List.mem_of_getElem? (i := 602) (by decide +kernel)) rfl, by decide +kernel⟩, by decide, rfl, gd_mem (List.mem_of_getElem? (i := 600) (by decide +kernel)) rfl, gd_mem (List.mem_of_getElem? (i := 601) (by decide +kernel)) rfl⟩
theorem lL_63 : MLV RL 63 mX9_way 1 7 := ⟨⟨Or.inl (gd_mem (List.mem_of_getElem? (i := 1024) (by decide +kernel)) rfl), gd_mem (List.mem_of_getElem? (i := 67) (by decide +kernel)) rfl, gd_mem (List.mem_of_getElem? (i := 1027) (by decide +kernel)) rfl, by decide +kernel⟩, by decide, rfl, gd_mem (List.mem_of_getElem? (i := 1025) (by decide +kernel)) rfl, gd_mem (List.mem_of_getElem? (i := 1026) (by decide +kernel)) rfl⟩
theorem lL_64 : MLV RL 64 mX8_round 0 6 := ⟨⟨Or.inl (gd_mem (List.mem_of_getElem? (i := 629) (by decide +kernel)) rfl), gd_mem (List.mem_of_getElem? (i := 59) (by decide +kernel)) rfl, gd_mem (List.mem_of_getElem? (i := 632) (by decide +kernel)) rfl, by decide +kernel⟩, by decide, rfl, gd_mem (List.mem_of_getElem? (i := 630) (by decide +kernel)) rfl, gd_mem (List.mem_of_getElem? (i := 631) (by decide +kernel)) rfl⟩
theorem lL_67 : MLV RL 67 mX9_round 0 7 := ⟨⟨Or.inl (gd_mem (List.mem_of_getElem? (i := 1032) (by decide +kernel)) rfl), gd_mem (List.mem_of_getElem? (i := 67) (by decide +kernel)) rfl, gd_mem (List.mem_of_getElem? (i := 1035) (by decide +kernel)) rfl, by decide +kernel⟩, by decide, rfl, gd_mem (List.mem_of_getElem? (i := 1033) (by decide +kernel)) rfl, gd_mem (List.mem_of_getElem? (i := 1034) (by decide +kernel)) rfl⟩
theorem lL_68 : MLV RL 68 mX8_alike 1 6 := ⟨⟨Or.inl (gd_mem (List.mem_of_getElem? (i := 641) (by decide +kernel)) rfl), gd_mem (List.mem_of_getElem? (i := 59) (by decide +kernel)) rfl, gd_mem (List.mem_of_getElem? (i := 644) (by decide +kernel)) rfl, by decide +kernel⟩, by decide, rfl, gd_mem (List.mem_of_getElem? (i := 642) (by decide +kernel)) rfl, gd_mem (List.mem_of_getElem? (i := 643) (by decide +kernel)) rfl⟩
theorem lL_71 : MLV RL 71 mX9_alike 1 7 := ⟨⟨Or.inl (gd_mem (List.mem_of_getElem? (i := 1036) (by decide +kernel)) rfl), gd_mem (List.mem_of_getElem? (i := 67) (by decide +kernel)) rfl, gd_mem (List.mem_of_getElem? (i := 1039) (by decide +kernel)) rfl, by decide +kernel⟩, by decide, rfl, gd_mem (List.mem_of_getElem? (i := 1037) (by decide +kernel)) rfl, gd_mem (List.mem_of_getElem? (i := 1038) (by decide +kernel)) rfl⟩
theorem lL_72 : MLV RL 72 mX8_squares 1 6 := ⟨⟨Or.inl (gd_mem (List.mem_of_getElem? (i := 650) (by decide +kernel)) rfl), gd_mem (List.mem_of_getElem? (i := 59) (by decide +kernel)) rfl, gd_mem (List.mem_of_getElem? (i := 653) (by decide +kernel)) rfl, by decide +kernel⟩, by decide, rfl, gd_mem (List.mem_of_getElem? (i := 651) (by decide +kernel)) rfl, gd_mem (List.mem_of_getElem? (i := 652) (by decide +kernel)) rfl⟩
theorem lL_75 : MLV RL 75 mX9_squares 1 7 := ⟨⟨Or.inl (gd_mem (List.mem_of_getElem? (i := 1048) (by decide +kernel)) rfl), gd_mem (List.mem_of_getElem? (i := 67) (by decide +kernel)) rfl, gd_mem (List.mem_of_getElem? (i := 1051) (by decide +kernel)) rfl, by decide +kernel⟩, by decide, rfl, gd_mem (List.mem_of_getElem? (i := 1049) (by decide +kernel)) rfl, gd_mem (List.mem_of_getElem? (i := 1050) (by decide +kernel)) rfl⟩
theorem lL_76 : MLV RL 76 mX8_text 1 6 := ⟨⟨Or.inl (gd_mem (List.mem_of_getElem? (i := 666) (by decide +kernel)) rfl), gd_mem (List.mem_of_getElem? (i := 59) (by decide +kernel)) rfl, gd_mem (List.mem_of_getElem? (i := 669) (by decide +kernel)) rfl, by decide +kernel⟩, by decide, rfl, gd_mem (List.mem_of_getElem? (i := 667) (by decide +kernel)) rfl, gd_mem (List.mem_of_getElem? (i := 668) (by decide +kernel)) rfl⟩
theorem lL_79 : MLV RL 79 mX9_text 1 7 := ⟨⟨Or.inl (gd_mem (List.mem_of_getElem? (i := 1052) (by decide +kernel)) rfl), gd_mem (List.mem_of_getElem? (i := 67) (by decide +kernel)) rfl, gd_mem (List.mem_of_getElem? (i := 1055) (by decide +kernel)) rfl, by decide +kernel⟩, by decide, rfl, gd_mem (List.mem_of_getElem? (i := 1053) (by decide +kernel)) rfl, gd_mem (List.mem_of_getElem? (i := 1054) (by decide +kernel)) rfl⟩
theorem lL_80 : MLV RL 80 mX8_picture 1 6 := ⟨⟨Or.inl (gd_mem (List.mem_of_getElem? (i := 696) (by decide +kernel)) rfl), gd_mem (List.mem_of_getElem? (i := 59) (by decide +kernel)) rfl, gd_mem (List.mem_of_getElem? (i := 699) (by decide +kernel)) rfl, by decide +kernel⟩, by decide, rfl, gd_mem (List.mem_of_getElem? (i := 697) (by decide +kernel)) rfl, gd_mem (List.mem_of_getElem? (i := 698) (by decide +kernel)) rfl⟩
theorem lL_83 : MLV RL 83 mX9_picture 1 7 := ⟨⟨Or.inl (gd_mem (List.mem_of_getElem? (i := 1064) (by decide +kernel)) rfl), gd_mem (List.mem_of_getElem? (i := 67) (by decide +kernel)) rfl, gd_mem (List.mem_of_getElem? (i := 1067) (by decide +kernel)) rfl, by decide +kernel⟩, by decide, rfl, gd_mem (List.mem_of_getElem? (i := 1065) (by decide +kernel)) rfl, gd_mem (List.mem_of_getElem? (i := 1066) (by decide +kernel)) rfl⟩
theorem lL_84 : MLV RL 84 mX8_call 1 6 := ⟨⟨Or.inl (gd_mem (List.mem_of_getElem? (i := 706) (by decide +kernel)) rfl), gd_mem (List.mem_of_getElem? (i := 59) (by decide +kernel)) rfl, gd_mem (List.mem_of_getElem? (i := 709) (by decide +kernel)) rfl, by decide +kernel⟩, by decide, rfl, gd_mem (List.mem_of_getElem? (i := 707) (by decide +kernel)) rfl, gd_mem (List.mem_of_getElem? (i := 708) (by decide +kernel)) rfl⟩
theorem lL_87 : MLV RL 87 mX9_call 1 7 := ⟨⟨Or.inl (gd_mem (List.mem_of_getElem? (i := 1069) (by decide +kernel)) rfl), gd_mem (List.mem_of_getElem? (i := 67) (by decide +kernel)) rfl, gd_mem (List.mem_of_getElem? (i := 1072) (by decide +kernel)) rfl, by decide +kernel⟩, by decide, rfl, gd_mem (List.mem_of_getElem? (i := 1070) (by decide +kernel)) rfl, gd_mem (List.mem_of_getElem? (i := 1071) (by decide +kernel)) rfl⟩
theorem lL_88 : MLV RL 88 mX8_danced 1 6 := ⟨⟨Or.inl (gd_mem (List.mem_of_getElem? (i := 710) (by decide +kernel)) rfl), gd_mem (List.mem_of_getElem? (i := 59) (by decide +kernel)) rfl, gd_mem (List.mem_of_getElem? (i := 713) (by decide +kernel)) rfl, by decide +kernel⟩, by decide, rfl, gd_mem (List.mem_of_getElem? (i := 711) (by decide +kernel)) rfl, gd_mem (List.mem_of_getElem? (i := 712) (by decide +kernel)) rfl⟩
theorem lL_91 : MLV RL 91 mX9_danced 1 7 := ⟨⟨Or.inl (gd_mem (List.mem_of_getElem? (i := 1073) (by decide +kernel)) rfl), gd_mem (List.mem_of_getElem? (i := 67) (by decide +kernel)) rfl, gd_mem (List.mem_of_getElem? (i := 1076) (by decide +kernel)) rfl, by decide +kernel⟩, by decide, rfl, gd_mem (List.mem_of_getElem? (i := 1074) (by decide +kernel)) rfl, gd_mem (List.mem_of_getElem? (i := 1075) (by decide +kernel)) rfl⟩
theorem lL_92 : MLV RL 92 mX8_image 0 6 := ⟨⟨Or.inl (gd_mem (List.mem_of_getElem? (i := 714) (by decide +kernel)) rfl), gd_mem (List.mem_of_getElem? (i := 59) (by decide +kernel)) rfl, gd_mem (List.mem_of_getElem? (i := 717) (by decide +kernel)) rfl, by decide +kernel⟩, by decide, rfl, gd_mem (List.mem_of_getElem? (i := 715) (by decide +kernel)) rfl, gd_mem (List.mem_of_getElem? (i := 716) (by decide +kernel)) rfl⟩
theorem lL_95 : MLV RL 95 mX9_image 0 7 := ⟨⟨Or.inl (gd_mem (List.mem_of_getElem? (i := 1077) (by decide +kernel)) rfl), gd_mem (List.mem_of_getElem? (i := 67) (by decide +kernel)) rfl, gd_mem (List.mem_of_getElem? (i := 1080) (by decide +kernel)) rfl, by decide +kernel⟩, by decide, rfl, gd_mem (List.mem_of_getElem? (i := 1078) (by decide +kernel)) rfl, gd_mem (List.mem_of_getElem? (i := 1079) (by decide +kernel)) rfl⟩
theorem lL_96 : MLV RL 96 mX8_back 0 6 := ⟨⟨Or.inl (gd_mem (List.mem_of_getElem? (i := 725) (by decide +kernel)) rfl), gd_mem (List.mem_of_getElem? (i := 59) (by decide +kernel)) rfl, gd_mem (List.mem_of_getElem? (i := 728) (by decide +kernel)) rfl, by decide +kernel⟩, by decide, rfl, gd_mem (List.mem_of_getElem? (i := 726) (by decide +kernel)) rfl, gd_mem (List.mem_of_getElem? (i := 727) (by decide +kernel)) rfl⟩
theorem lL_99 : MLV RL 99 mX9_back 0 7 := ⟨⟨Or.inl (gd_mem (List.mem_of_getElem? (i := 1081) (by decide +kernel)) rfl), gd_mem (List.mem_of_getElem? (i := 67) (by decide +kernel)) rfl, gd_mem (List.mem_of_getElem? (i := 1084) (by decide +kernel)) rfl, by decide +kernel⟩, by decide, rfl, gd_mem (List.mem_of_getElem? (i := 1082) (by decide +kernel)) rfl, gd_mem (List.mem_of_getElem? (i := 1083) (by decide +kernel)) rfl⟩
end
section
section RN
variable {Z : ZT} {X : XT} {M : MI} {k mc ms : Nat} {w0 : WD} {nc ns pc : Nat} {ls ls' : List (Option Value)} {st : List Value} {w w2 : WD}
theorem r_topi {x : Int32} (v : Int32) (h : x = v) (K : Rq Z X M k mc ms w0 nc ns pc ls (.int v :: st) w) : Rq Z X M k mc ms w0 nc ns pc ls (.int x :: st) w := h ▸ K
theorem r_topl {x : Int64} (v : Int64) (h : x = v) (K : Rq Z X M k mc ms w0 nc ns pc ls (.long v :: st) w) : Rq Z X M k mc ms w0 nc ns pc ls (.long x :: st) w := h ▸ K
theorem r_pc (pc2 : Nat) (h : pc = pc2) (K : Rq Z X M k mc ms w0 nc ns pc2 ls st w) : Rq Z X M k mc ms w0 nc ns pc ls st w := h ▸ K
theorem r_w (w2 : WD) (h : w = w2) (K : Rq Z X M k mc ms w0 nc ns pc ls st w2) : Rq Z X M k mc ms w0 nc ns pc ls st w := h ▸ K
/-- numbers that are not below 0 -/
theorem r_iaddN {a b : Nat} (hd : decode M.2.1 pc = .ok (.iadd, 1)) (K : Rq Z X M k mc ms w0 nc ns (pc + 1) ls (.int (nI (a + b)) :: st) w) : Rq Z X M k mc ms w0 nc ns pc ls (.int (nI b) :: .int (nI a) :: st) w := r_iadd hd (by rw [nI_add]; exact K)
theorem r_imulN {a b : Nat} (hd : decode M.2.1 pc = .ok (.imul, 1)) (K : Rq Z X M k mc ms w0 nc ns (pc + 1) ls (.int (nI (a * b)) :: st) w) : Rq Z X M k mc ms w0 nc ns pc ls (.int (nI b) :: .int (nI a) :: st) w := r_imul hd (by rw [pk_mul]; exact K)
theorem r_isubN {a b : Nat} (hd : decode M.2.1 pc = .ok (.isub, 1)) (h : b ≤ a) (K : Rq Z X M k mc ms w0 nc ns (pc + 1) ls (.int (nI (a - b)) :: st) w) : Rq Z X M k mc ms w0 nc ns pc ls (.int (nI b) :: .int (nI a) :: st) w := r_isub hd (by rw [pk_sub h]; exact K)
theorem nI_ne (b : Nat) (h0 : 0 < b) (hb : b < 2 ^ 31) : ¬ nI b = 0 := nI_ne0 h0 hb
theorem r_idivN {a b : Nat} (hd : decode M.2.1 pc = .ok (.idiv, 1)) (ha : a < 2 ^ 31) (h0 : 0 < b) (hb : b < 2 ^ 31) (K : Rq Z X M k mc ms w0 nc ns (pc + 1) ls (.int (nI (a / b)) :: st) w) : Rq Z X M k mc ms w0 nc ns pc ls (.int (nI b) :: .int (nI a) :: st) w := r_idiv hd (nI_ne b h0 hb) (by rw [pk_div ha h0 hb]; exact K)
theorem r_iremN {a b : Nat} (hd : decode M.2.1 pc = .ok (.irem, 1)) (ha : a < 2 ^ 31) (h0 : 0 < b) (hb : b < 2 ^ 31) (K : Rq Z X M k mc ms w0 nc ns (pc + 1) ls (.int (nI (a % b)) :: st) w) : Rq Z X M k mc ms w0 nc ns pc ls (.int (nI b) :: .int (nI a) :: st) w := r_irem hd (nI_ne b h0 hb) (by rw [pk_rem ha h0 hb]; exact K)
theorem r_inc1 {j d : Nat} (hd : decode M.2.1 pc = .ok (.iinc j 1, 3)) (hn : j < M.2.2.1) (hx : ls[j]? = some (some (.int (nI d)))) (h : lst1 ls j (.int (nI (d + 1))) = ls') (K : Rq Z X M k mc ms w0 nc ns (pc + 3) ls' st w) : Rq Z X M k mc ms w0 nc ns pc ls st w := r_iinc hd hn hx (nI_1 d) h K
theorem r_icmp_eqN {a b : Nat} {off : Int} (tgt : Nat) (hd : decode M.2.1 pc = .ok (.if_icmp .eq off, 3)) (ht : (pc : Int) + off = (tgt : Int)) (ha : a < 2 ^ 31) (hb : b < 2 ^ 31) (K1 : a = b → Rq Z X M k mc ms w0 nc ns tgt ls st w) (K2 : ¬ a = b → Rq Z X M k mc ms w0 nc ns (pc + 3) ls st w) : Rq Z X M k mc ms w0 nc ns pc ls (.int (nI b) :: .int (nI a) :: st) w :=
  r_icmp_eq tgt hd ht (fun h => K1 ((nI_eq ha hb).mp h)) (fun h => K2 ((fun q => h (by rw [q]))))
theorem r_icmp_neN {a b : Nat} {off : Int} (tgt : Nat) (hd : decode M.2.1 pc = .ok (.if_icmp .ne off, 3)) (ht : (pc : Int) + off = (tgt : Int)) (ha : a < 2 ^ 31) (hb : b < 2 ^ 31) (K1 : ¬ a = b → Rq Z X M k mc ms w0 nc ns tgt ls st w) (K2 : a = b → Rq Z X M k mc ms w0 nc ns (pc + 3) ls st w) : Rq Z X M k mc ms w0 nc ns pc ls (.int (nI b) :: .int (nI a) :: st) w :=
  r_icmp_ne tgt hd ht (fun h => K1 ((fun q => h (by rw [q])))) (fun h => K2 ((nI_eq ha hb).mp h))
theorem r_icmp_ltN {a b : Nat} {off : Int} (tgt : Nat) (hd : decode M.2.1 pc = .ok (.if_icmp .lt off, 3)) (ht : (pc : Int) + off = (tgt : Int)) (ha : a < 2 ^ 31) (hb : b < 2 ^ 31) (K1 : a < b → Rq Z X M k mc ms w0 nc ns tgt ls st w) (K2 : b ≤ a → Rq Z X M k mc ms w0 nc ns (pc + 3) ls st w) : Rq Z X M k mc ms w0 nc ns pc ls (.int (nI b) :: .int (nI a) :: st) w :=
  r_icmp_lt tgt hd ht (fun h => K1 ((nI_ltI ha hb).mp h)) (fun h => K2 ((Nat.not_lt.mp (fun q => h ((nI_ltI ha hb).mpr q)))))
theorem r_icmp_geN {a b : Nat} {off : Int} (tgt : Nat) (hd : decode M.2.1 pc = .ok (.if_icmp .ge off, 3)) (ht : (pc : Int) + off = (tgt : Int)) (ha : a < 2 ^ 31) (hb : b < 2 ^ 31) (K1 : b ≤ a → Rq Z X M k mc ms w0 nc ns tgt ls st w) (K2 : a < b → Rq Z X M k mc ms w0 nc ns (pc + 3) ls st w) : Rq Z X M k mc ms w0 nc ns pc ls (.int (nI b) :: .int (nI a) :: st) w :=
  r_icmp_ge tgt hd ht (fun h => K1 ((nI_leI hb ha).mp h)) (fun h => K2 ((Nat.not_le.mp (fun q => h ((nI_leI hb ha).mpr q)))))
theorem r_icmp_gtN {a b : Nat} {off : Int} (tgt : Nat) (hd : decode M.2.1 pc = .ok (.if_icmp .gt off, 3)) (ht : (pc : Int) + off = (tgt : Int)) (ha : a < 2 ^ 31) (hb : b < 2 ^ 31) (K1 : b < a → Rq Z X M k mc ms w0 nc ns tgt ls st w) (K2 : a ≤ b → Rq Z X M k mc ms w0 nc ns (pc + 3) ls st w) : Rq Z X M k mc ms w0 nc ns pc ls (.int (nI b) :: .int (nI a) :: st) w :=
  r_icmp_gt tgt hd ht (fun h => K1 ((nI_ltI hb ha).mp h)) (fun h => K2 ((Nat.not_lt.mp (fun q => h ((nI_ltI hb ha).mpr q)))))
theorem r_icmp_leN {a b : Nat} {off : Int} (tgt : Nat) (hd : decode M.2.1 pc = .ok (.if_icmp .le off, 3)) (ht : (pc : Int) + off = (tgt : Int)) (ha : a < 2 ^ 31) (hb : b < 2 ^ 31) (K1 : a ≤ b → Rq Z X M k mc ms w0 nc ns tgt ls st w) (K2 : b < a → Rq Z X M k mc ms w0 nc ns (pc + 3) ls st w) : Rq Z X M k mc ms w0 nc ns pc ls (.int (nI b) :: .int (nI a) :: st) w :=
  r_icmp_le tgt hd ht (fun h => K1 ((nI_leI ha hb).mp h)) (fun h => K2 ((Nat.not_le.mp (fun q => h ((nI_leI ha hb).mpr q)))))
/-- static a of zt_arr, as entry idx of class own names it -/
theorem r_gets {idx a : Nat} {q : String × String × String × FieldType × List Int32} (hd : decode M.2.1 pc = .ok (.getstatic idx, 3)) (hq : zt_arr[a]? = some q) (hL : Cond.fieldLink M.1.cls idx q.1 q.2.1 q.2.2.1 ∈ lw_gd ∨ ∃ host, Cond.fieldLinkNest M.1.cls idx q.1 q.2.1 q.2.2.1 host ∈ lw_ns) (K : Rq Z X M k mc ms w0 nc ns (pc + 3) ls (.ref (1000 + a) :: st) w) : Rq Z X M k mc ms w0 nc ns pc ls st w := by
  intro p l e s m args below meth c D cA ad0 A hC hX ad H locs lsA hg hP hD hS hl
  have K := K p l e s m args below meth c D cA ad0 A hC hX ad H locs lsA hg hP hD hS hl
  obtain ⟨hx, hb, hml, hrt, hlk, hnm, hown, hts, hK, hA, hSt⟩ := hC
  have hZ := (hSt.1 a q hq).1
  rw [← hg.2 _ (Or.inr (Nat.le_add_right _ _))] at hZ
  rcases hL with hL | ⟨host, hL⟩
  · exact va_gets hx hb hZ hS hown (hts _ hL) (fun _ h9 => h9) hd K
  · exact va_getsN hx hb hZ hS hown ((hSt.2.2.1.2.1 _ hL).use (ns_tab hL)) (fun _ h9 => h9) hd K
end RN
/-! ===== worlds that are the same below the arrays' lengths ===== -/
def aeq (a b : vp_A) : Prop := a.1 = b.1 ∧ match a.2, b.2 with
  | .inl f, .inl g => ∀ j, j < a.1 → f j = g j
  | .inr (.inl f), .inr (.inl g) => ∀ j, j < a.1 → f j = g j
  | .inr (.inr x), .inr (.inr y) => x = y
  | _, _ => False
def eeq (a b : AE) : Prop := match a, b with
  | .inl x, .inl y => x.1 = y.1 ∧ aeq x.2 y.2
  | .inr x, .inr y => x = y
  | _, _ => False
def leq : List AE → List AE → Prop
  | [], [] => True
  | a :: l, b :: m => eeq a b ∧ leq l m
  | _, _ => False
def weq (a b : WD) : Prop := leq a.1 b.1 ∧ leq a.2 b.2
theorem aeq_rf (a : vp_A) : aeq a a := by
  refine ⟨rfl, ?_⟩
  obtain ⟨n, f | f | f⟩ := a
  · exact fun _ _ => rfl
  · exact fun _ _ => rfl
  · rfl
theorem eeq_rf (a : AE) : eeq a a := by
  cases a with
  | inl x => exact ⟨rfl, aeq_rf _⟩
  | inr x => rfl
theorem leq_rf : ∀ l : List AE, leq l l
  | [] => trivial
  | a :: l => ⟨eeq_rf a, leq_rf l⟩
theorem arrV_ext {cA : ClassId} {n : Nat} {f g : Nat → Value} (h : ∀ j, j < n → f j = g j) : arrV cA n f = arrV cA n g := by
  unfold arrV
  congr 1
  apply Array.ext
  · simp
  · intro i h1 h2
    simp at h1
    simp [h i h1]
theorem ce_ext {ad : Nat → Nat} {cA : Nat → ClassId} {D : va_G} {q : Nat} {a b : AE} {H : Heap} (h : eeq a b) (hp : va_at D vwCl (q, ce ad cA a) H) : va_at D vwCl (q, ce ad cA b) H := by
  match a, b, h with
  | .inr x, .inr y, h => cases h; exact hp
  | .inl x, .inl y, h =>
    obtain ⟨t, n, f⟩ := x
    obtain ⟨t', n', g⟩ := y
    obtain ⟨h1, h2, h3⟩ := h
    dsimp only at h1 h2 h3
    subst h1
    subst h2
    have hp' : H[q]? = some (vp_cell (cA t) (ca ad (n, f))) := hp
    show H[q]? = some (vp_cell (cA t) (ca ad (n, g)))
    rw [hp']
    congr 1
    match f, g, h3 with
    | .inl f, .inl g, h3 => exact arrV_ext (cA := cA t) (n := n) (f := fun j => .int (f j)) (g := fun j => .int (g j)) (fun j hj => by rw [h3 j hj])
    | .inr (.inl f), .inr (.inl g), h3 => exact arrV_ext (cA := cA t) (n := n) (f := fun j => .long (f j)) (g := fun j => .long (g j)) (fun j hj => by rw [h3 j hj])
    | .inr (.inr f), .inr (.inr g), h3 => rw [h3]
theorem leq_get : ∀ (l m : List AE), leq l m → ∀ (k : Nat) (b : AE), m[k]? = some b → ∃ a, l[k]? = some a ∧ eeq a b
  | [], [], _, k, b, h => by simp at h
  | a :: l, b :: m, hl, 0, b', h => by
    simp at h
    subst h
    exact ⟨a, by simp, hl.1⟩
  | a :: l, b :: m, hl, k + 1, b', h => by
    simp at h
    obtain ⟨a', h1, h2⟩ := leq_get l m hl.2 k b' h
    exact ⟨a', by simpa using h1, h2⟩
theorem leq_len : ∀ (l m : List AE), leq l m → l.length = m.length
  | [], [], _ => rfl
  | a :: l, b :: m, hl => congrArg (· + 1) (leq_len l m hl.2)
theorem cw_eq {ad : Nat → Nat} {cA : Nat → ClassId} {w w2 : WD} (h : weq w w2) (k : Nat) (q : Nat × va_E) (hq : (cw ad cA w2)[k]? = some q) : ∃ a b, q = (q.1, ce ad cA b) ∧ (cw ad cA w)[k]? = some (q.1, ce ad cA a) ∧ eeq a b := by
  have e1 := leq_len _ _ h.1
  unfold cw at hq ⊢
  by_cases hk : k < w2.1.length
  · rw [List.getElem?_append_left (by rw [cwl_len]; exact hk), cwl_get] at hq
    rw [List.getElem?_append_left (by rw [cwl_len, e1]; exact hk), cwl_get]
    cases hb : w2.1[k]? with
    | none => rw [hb] at hq; cases hq
    | some b =>
      rw [hb] at hq
      cases hq
      obtain ⟨a, h1, h2⟩ := leq_get _ _ h.1 k b hb
      exact ⟨a, b, rfl, by rw [h1]; rfl, h2⟩
  · rw [List.getElem?_append_right (by rw [cwl_len]; omega), cwl_get, cwl_len] at hq
    rw [List.getElem?_append_right (by rw [cwl_len, e1]; omega), cwl_get, cwl_len, e1]
    cases hb : w2.2[k - w2.1.length]? with
    | none => rw [hb] at hq; cases hq
    | some b =>
      rw [hb] at hq
      cases hq
      obtain ⟨a, h1, h2⟩ := leq_get _ _ h.2 _ b hb
      exact ⟨a, b, rfl, by rw [h1]; rfl, h2⟩
theorem weq_P {ad : Nat → Nat} {cA : Nat → ClassId} {D : va_G} {w w2 : WD} {H : Heap} (h : weq w w2) (hP : va_P D vwCl (cw ad cA w) H) : va_P D vwCl (cw ad cA w2) H := by
  intro k q hq
  obtain ⟨a, b, e1, h1, h2⟩ := cw_eq h k q hq
  rw [e1]
  exact ce_ext h2 (hP k _ h1)
theorem weq_D {ad : Nat → Nat} {cA : Nat → ClassId} {A : Nat → Prop} {w w2 : WD} (h : weq w w2) (hD : va_D A (cw ad cA w)) : va_D A (cw ad cA w2) := by
  refine ⟨fun i j p q hi hj hpq => ?_, fun k q hq => ?_⟩
  · obtain ⟨a, b, e1, h1, h2⟩ := cw_eq h i p hi
    obtain ⟨a', b', e1', h1', h2'⟩ := cw_eq h j q hj
    exact hD.1 i j _ _ h1 h1' hpq
  · obtain ⟨a, b, e1, h1, h2⟩ := cw_eq h k q hq
    exact hD.2 k (q.1, ce ad cA a) h1
theorem r_weq {Z : ZT} {X : XT} {M : MI} {k mc ms : Nat} {w0 : WD} {nc ns pc : Nat} {ls : List (Option Value)} {st : List Value} {w : WD} (w2 : WD) (h : weq w w2) (K : Rq Z X M k mc ms w0 nc ns pc ls st w2) : Rq Z X M k mc ms w0 nc ns pc ls st w :=
  fun p l e s m args below meth c D cA ad0 A hC hX ad H locs lsA hg hP hD hS hl => K p l e s m args below meth c D cA ad0 A hC hX ad H locs lsA hg (weq_P h hP) (weq_D h hD) hS hl
end
section
section RD
variable {Z : ZT} {X : XT} {M : MI} {k mc ms : Nat} {w0 : WD} {nc ns pc : Nat} {ls : List (Option Value)} {st stk : List Value} {w w2 : WD}
theorem r_cV {idx k2 n ci q : Nat} {M2 : MI} {as : List Value} {fs : List Value} {v : Value} (hd : decode M.2.1 pc = .ok (.invokevirtual idx, 3)) (hM : Sem M2 k2 0 0 (.ref q :: as) w (some v) w2) (hL : MLV M.1.cls idx M2 n ci) (hstk : stk = as.reverse ++ .ref q :: st) (hw : wg w q = some (.inr (ci, fs))) (hn : as.length = n) (hk : k2 + 1 ≤ k ∧ M2.2.2.1 ≤ 19) (hnc : nc ≤ mc ∧ ns ≤ ms) (hst : (st.map fun v => v.category).sum ≤ 8) (K : Rq Z X M k mc ms w0 nc ns (pc + 3) ls (v :: st) w2) : Rq Z X M k mc ms w0 nc ns pc ls stk w := by
  subst hstk
  exact r_callV hd hM hL hw hn hk hnc hst K
theorem r_cVv {idx k2 n ci q : Nat} {M2 : MI} {as : List Value} {fs : List Value} (hd : decode M.2.1 pc = .ok (.invokevirtual idx, 3)) (hM : Sem M2 k2 0 0 (.ref q :: as) w none w2) (hL : MLV M.1.cls idx M2 n ci) (hstk : stk = as.reverse ++ .ref q :: st) (hw : wg w q = some (.inr (ci, fs))) (hn : as.length = n) (hk : k2 + 1 ≤ k ∧ M2.2.2.1 ≤ 19) (hnc : nc ≤ mc ∧ ns ≤ ms) (hst : (st.map fun v => v.category).sum ≤ 8) (K : Rq Z X M k mc ms w0 nc ns (pc + 3) ls st w2) : Rq Z X M k mc ms w0 nc ns pc ls stk w := by
  subst hstk
  exact r_callV hd hM hL hw hn hk hnc hst K
theorem r_cS {idx k2 n : Nat} {M2 : MI} {as : List Value} {v : Value} (hd : decode M.2.1 pc = .ok (.invokestatic idx, 3)) (hM : Sem M2 k2 0 0 as w (some v) w2) (hL : MLS M.1.cls idx M2 n) (hstk : stk = as.reverse ++ st) (hn : as.length = n) (hk : k2 + 1 ≤ k ∧ M2.2.2.1 ≤ 19) (hnc : nc ≤ mc ∧ ns ≤ ms) (hst : (st.map fun v => v.category).sum ≤ 8) (K : Rq Z X M k mc ms w0 nc ns (pc + 3) ls (v :: st) w2) : Rq Z X M k mc ms w0 nc ns pc ls stk w := by
  subst hstk
  exact r_callS hd hM hL hn hk hnc hst K
end RD
theorem sX9_130 : Cond.fieldLink RX9 130 "SquareCallerModel" "HOME_CELL" "[I" ∈ lw_gd ∨ ∃ host, Cond.fieldLinkNest RX9 130 "SquareCallerModel" "HOME_CELL" "[I" host ∈ lw_ns := Or.inl (gd_mem (List.mem_of_getElem? (i := 758) (by decide +kernel)) rfl)
theorem sX9_133 : Cond.fieldLink RX9 133 "SquareCallerModel" "HOME_FACE" "[I" ∈ lw_gd ∨ ∃ host, Cond.fieldLinkNest RX9 133 "SquareCallerModel" "HOME_FACE" "[I" host ∈ lw_ns := Or.inl (gd_mem (List.mem_of_getElem? (i := 760) (by decide +kernel)) rfl)
theorem sX9_155 : Cond.fieldLink RX9 155 "SquareCallerModel" "GROUP" "[I" ∈ lw_gd ∨ ∃ host, Cond.fieldLinkNest RX9 155 "SquareCallerModel" "GROUP" "[I" host ∈ lw_ns := Or.inl (gd_mem (List.mem_of_getElem? (i := 933) (by decide +kernel)) rfl)
theorem sX2_75 : Cond.fieldLink RX2 75 "SquareCaller" "HOME_CELLS" "[I" ∈ lw_gd ∨ ∃ host, Cond.fieldLinkNest RX2 75 "SquareCaller" "HOME_CELLS" "[I" host ∈ lw_ns := Or.inr ⟨"SquareCaller", ns_mem (List.mem_of_getElem? (i := 470) (by decide +kernel)) rfl⟩
theorem sX2_78 : Cond.fieldLink RX2 78 "SquareCaller" "HOME_FACINGS" "[I" ∈ lw_gd ∨ ∃ host, Cond.fieldLinkNest RX2 78 "SquareCaller" "HOME_FACINGS" "[I" host ∈ lw_ns := Or.inr ⟨"SquareCaller", ns_mem (List.mem_of_getElem? (i := 471) (by decide +kernel)) rfl⟩
theorem sX2_122 : Cond.fieldLink RX2 122 "SquareCaller" "STEP_X" "[I" ∈ lw_gd ∨ ∃ host, Cond.fieldLinkNest RX2 122 "SquareCaller" "STEP_X" "[I" host ∈ lw_ns := Or.inr ⟨"SquareCaller", ns_mem (List.mem_of_getElem? (i := 450) (by decide +kernel)) rfl⟩
theorem sX2_125 : Cond.fieldLink RX2 125 "SquareCaller" "STEP_Y" "[I" ∈ lw_gd ∨ ∃ host, Cond.fieldLinkNest RX2 125 "SquareCaller" "STEP_Y" "[I" host ∈ lw_ns := Or.inr ⟨"SquareCaller", ns_mem (List.mem_of_getElem? (i := 452) (by decide +kernel)) rfl⟩
theorem sX2_128 : Cond.fieldLink RX2 128 "SquareCaller" "FACING_SIGNS" "[C" ∈ lw_gd ∨ ∃ host, Cond.fieldLinkNest RX2 128 "SquareCaller" "FACING_SIGNS" "[C" host ∈ lw_ns := Or.inr ⟨"SquareCaller", ns_mem (List.mem_of_getElem? (i := 704) (by decide +kernel)) rfl⟩
theorem sX3_15 : Cond.fieldLink RX3 15 "SquareCaller" "HOME_CELLS" "[I" ∈ lw_gd ∨ ∃ host, Cond.fieldLinkNest RX3 15 "SquareCaller" "HOME_CELLS" "[I" host ∈ lw_ns := Or.inr ⟨"SquareCaller", ns_mem (List.mem_of_getElem? (i := 151) (by decide +kernel)) rfl⟩
theorem sX3_19 : Cond.fieldLink RX3 19 "SquareCaller" "HOME_FACINGS" "[I" ∈ lw_gd ∨ ∃ host, Cond.fieldLinkNest RX3 19 "SquareCaller" "HOME_FACINGS" "[I" host ∈ lw_ns := Or.inr ⟨"SquareCaller", ns_mem (List.mem_of_getElem? (i := 153) (by decide +kernel)) rfl⟩
end
section
/-! ===== static leaves of the class ===== -/
theorem s_bits (w : WD) (d c f : Int32) : Sem mX3_bits 1 0 0 [.int d, .int c, .int f] w (some (.long ((c + nI 16 * f).toInt64 <<< ((nI 6 * d).toInt64 &&& 63)))) w := by
  refine sem_of (by decide) (Nat.le_of_ble_eq_true rfl) rfl ?_
  refine r_iload_n dX3_bits_0 rfl ?_
  refine r_bipush (v := (nI 16)) dX3_bits_1 (by decide) ?_
  refine r_iload_n dX3_bits_3 rfl ?_
  refine r_imul dX3_bits_4 ?_
  refine r_iadd dX3_bits_5 ?_
  refine r_pc 6 rfl ?_
  refine r_i2l dX3_bits_6 ?_
  refine r_bipush (v := (nI 6)) dX3_bits_7 (by decide) ?_
  refine r_iload_n dX3_bits_9 rfl ?_
  refine r_imul dX3_bits_10 ?_
  refine r_lshl dX3_bits_11 ?_
  refine r_pc 12 rfl ?_
  exact r_lret dX3_bits_12 rfl rfl rfl
theorem s_cellOf (w : WD) (q : Int64) (d : Int32) : Sem mX3_cellOf 1 0 0 [.long q, .int d] w (some (.int ((q >>> ((nI 6 * d).toInt64 &&& 63)).toInt32 &&& nI 15))) w := by
  refine sem_of (by decide) (Nat.le_of_ble_eq_true rfl) rfl ?_
  refine r_lload_n dX3_cellOf_0 rfl ?_
  refine r_bipush (v := (nI 6)) dX3_cellOf_1 (by decide) ?_
  refine r_iload_n dX3_cellOf_3 rfl ?_
  refine r_imul dX3_cellOf_4 ?_
  refine r_lshr dX3_cellOf_5 ?_
  refine r_pc 6 rfl ?_
  refine r_l2i dX3_cellOf_6 ?_
  refine r_bipush (v := (nI 15)) dX3_cellOf_7 (by decide) ?_
  refine r_iand dX3_cellOf_9 ?_
  exact r_iret dX3_cellOf_10 rfl rfl rfl
theorem s_isIn (w : WD) (d b : Int32) : Sem mX2_isIn 1 0 0 [.int d, .int b] w (some (.int (if d = -1 then nI 0 else if b >>> (d &&& 31) &&& nI 1 = nI 1 then nI 1 else nI 0))) w := by
  refine sem_of (by decide) (Nat.le_of_ble_eq_true rfl) rfl ?_
  refine r_iload_n dX2_isIn_0 rfl ?_
  refine r_iconst (v := (-1)) dX2_isIn_1 (by decide) ?_
  refine r_pc 2 rfl ?_
  refine r_icmp_eq 18 dX2_isIn_2 (by decide) (fun h2 => ?_) (fun h2 => ?_)
  · rw [if_pos h2]
    refine r_iconst (v := (nI 0)) dX2_isIn_18 (by decide) ?_
    exact r_zret dX2_isIn_19 rfl rfl rfl rfl
  · rw [if_neg h2]
    refine r_iload_n dX2_isIn_5 rfl ?_
    refine r_iload_n dX2_isIn_6 rfl ?_
    refine r_ishr dX2_isIn_7 ?_
    refine r_iconst (v := (nI 1)) dX2_isIn_8 (by decide) ?_
    refine r_iand dX2_isIn_9 ?_
    refine r_pc 10 rfl ?_
    refine r_iconst (v := (nI 1)) dX2_isIn_10 (by decide) ?_
    refine r_pc 11 rfl ?_
    refine r_icmp_ne 18 dX2_isIn_11 (by decide) (fun h11 => ?_) (fun h11 => ?_)
    · rw [if_neg h11]
      refine r_iconst (v := (nI 0)) dX2_isIn_18 (by decide) ?_
      exact r_zret dX2_isIn_19 rfl rfl rfl rfl
    · rw [if_pos h11]
      refine r_iconst (v := (nI 1)) dX2_isIn_14 (by decide) ?_
      refine r_goto 19 dX2_isIn_15 (by decide) ?_
      exact r_zret dX2_isIn_19 rfl rfl rfl rfl
def nbX (f : Nat) : Int32 := ([0, 1, 0, -1] : List Int32).getD f 0
def nbY (f : Nat) : Int32 := ([1, 0, -1, 0] : List Int32).getD f 0
def nbI (c f : Nat) : Int32 := if nI (c % 4) + nbX f < 0 then -1 else if nI 4 ≤ nI (c % 4) + nbX f then -1 else if nI (c / 4) + nbY f < 0 then -1 else if nI 4 ≤ nI (c / 4) + nbY f then -1 else nI 4 * (nI (c / 4) + nbY f) + (nI (c % 4) + nbX f)
theorem s_neighbour (w : WD) (c f : Nat) (hc : c < 16) (hf : f < 8) : Sem mX2_neighbour 1 0 0 [.int (nI c), .int (nI f)] w (some (.int (nbI c (f % 4)))) w := by
  refine sem_of (by decide) (Nat.le_of_ble_eq_true rfl) rfl ?_
  have hm : f % 4 < 4 := Nat.mod_lt _ (by decide)
  have he : nI f &&& nI 3 = nI (f % 4) := pk_andN (by omega) 2 (by decide)
  unfold nbI
  refine r_iload_n dX2_neighbour_0 rfl ?_
  refine r_iconst (v := (nI 4)) dX2_neighbour_1 (by decide) ?_
  refine r_iremN dX2_neighbour_2 (by omega) (by decide) (by decide) ?_
  refine r_gets (a := 2) dX2_neighbour_3 rfl sX2_122 ?_
  refine r_iload_n dX2_neighbour_6 rfl ?_
  refine r_pc 7 rfl ?_
  refine r_iconst (v := (nI 3)) dX2_neighbour_7 (by decide) ?_
  refine r_iand dX2_neighbour_8 ?_
  refine r_pc 9 rfl ?_
  refine r_topi _ he ?_
  refine r_cald (v := nbX (f % 4)) 2 rfl (Or.inl ⟨dX2_neighbour_9, rfl⟩) rfl hm (by decide) rfl ?_
  refine r_iadd dX2_neighbour_10 ?_
  refine r_istore_n (ls' := [_, _, _, _, _]) dX2_neighbour_11 (by decide) rfl ?_
  refine r_iload_n dX2_neighbour_12 rfl ?_
  refine r_iconst (v := (nI 4)) dX2_neighbour_13 (by decide) ?_
  refine r_pc 14 rfl ?_
  refine r_idivN dX2_neighbour_14 (by omega) (by decide) (by decide) ?_
  refine r_gets (a := 3) dX2_neighbour_15 rfl sX2_125 ?_
  refine r_iload_n dX2_neighbour_18 rfl ?_
  refine r_iconst (v := (nI 3)) dX2_neighbour_19 (by decide) ?_
  refine r_iand dX2_neighbour_20 ?_
  refine r_pc 21 rfl ?_
  refine r_topi _ he ?_
  refine r_cald (v := nbY (f % 4)) 3 rfl (Or.inl ⟨dX2_neighbour_21, rfl⟩) rfl hm (by decide) rfl ?_
  refine r_iadd dX2_neighbour_22 ?_
  refine r_istore_n (ls' := [_, _, _, _, _]) dX2_neighbour_23 (by decide) rfl ?_
  refine r_iload_n dX2_neighbour_24 rfl ?_
  refine r_pc 25 rfl ?_
  refine r_if_lt 46 dX2_neighbour_25 (by decide) (fun h25 => ?_) (fun h25 => ?_)
  · rw [if_pos h25]
    refine r_iconst (v := (nI 0)) dX2_neighbour_46 (by decide) ?_
    refine r_istore (ls' := [_, _, _, _, _]) dX2_neighbour_47 (by decide) rfl ?_
    refine r_iload dX2_neighbour_49 rfl ?_
    refine r_pc 51 rfl ?_
    refine r_if_eq 62 dX2_neighbour_51 (by decide) (fun h51 => ?_) (fun h51 => ?_)
    · refine r_iconst (v := (-1)) dX2_neighbour_62 (by decide) ?_
      exact r_iret dX2_neighbour_63 rfl rfl rfl
    · exact absurd rfl h51
  · rw [if_neg h25]
    refine r_iload_n dX2_neighbour_28 rfl ?_
    refine r_iconst (v := (nI 4)) dX2_neighbour_29 (by decide) ?_
    refine r_pc 30 rfl ?_
    refine r_icmp_ge 46 dX2_neighbour_30 (by decide) (fun h30 => ?_) (fun h30 => ?_)
    · rw [if_pos h30]
      refine r_iconst (v := (nI 0)) dX2_neighbour_46 (by decide) ?_
      refine r_istore (ls' := [_, _, _, _, _]) dX2_neighbour_47 (by decide) rfl ?_
      refine r_iload dX2_neighbour_49 rfl ?_
      refine r_pc 51 rfl ?_
      refine r_if_eq 62 dX2_neighbour_51 (by decide) (fun h51 => ?_) (fun h51 => ?_)
      · refine r_iconst (v := (-1)) dX2_neighbour_62 (by decide) ?_
        exact r_iret dX2_neighbour_63 rfl rfl rfl
      · exact absurd rfl h51
    · rw [if_neg h30]
      refine r_iload_n dX2_neighbour_33 rfl ?_
      refine r_pc 34 rfl ?_
      refine r_if_lt 46 dX2_neighbour_34 (by decide) (fun h34 => ?_) (fun h34 => ?_)
      · rw [if_pos h34]
        refine r_iconst (v := (nI 0)) dX2_neighbour_46 (by decide) ?_
        refine r_istore (ls' := [_, _, _, _, _]) dX2_neighbour_47 (by decide) rfl ?_
        refine r_iload dX2_neighbour_49 rfl ?_
        refine r_pc 51 rfl ?_
        refine r_if_eq 62 dX2_neighbour_51 (by decide) (fun h51 => ?_) (fun h51 => ?_)
        · refine r_iconst (v := (-1)) dX2_neighbour_62 (by decide) ?_
          exact r_iret dX2_neighbour_63 rfl rfl rfl
        · exact absurd rfl h51
      · rw [if_neg h34]
        refine r_iload_n dX2_neighbour_37 rfl ?_
        refine r_iconst (v := (nI 4)) dX2_neighbour_38 (by decide) ?_
        refine r_pc 39 rfl ?_
        refine r_icmp_ge 46 dX2_neighbour_39 (by decide) (fun h39 => ?_) (fun h39 => ?_)
        · rw [if_pos h39]
          refine r_iconst (v := (nI 0)) dX2_neighbour_46 (by decide) ?_
          refine r_istore (ls' := [_, _, _, _, _]) dX2_neighbour_47 (by decide) rfl ?_
          refine r_iload dX2_neighbour_49 rfl ?_
          refine r_pc 51 rfl ?_
          refine r_if_eq 62 dX2_neighbour_51 (by decide) (fun h51 => ?_) (fun h51 => ?_)
          · refine r_iconst (v := (-1)) dX2_neighbour_62 (by decide) ?_
            exact r_iret dX2_neighbour_63 rfl rfl rfl
          · exact absurd rfl h51
        · rw [if_neg h39]
          refine r_iconst (v := (nI 1)) dX2_neighbour_42 (by decide) ?_
          refine r_goto 47 dX2_neighbour_43 (by decide) ?_
          refine r_istore (ls' := [_, _, _, _, _]) dX2_neighbour_47 (by decide) rfl ?_
          refine r_iload dX2_neighbour_49 rfl ?_
          refine r_pc 51 rfl ?_
          refine r_if_eq 62 dX2_neighbour_51 (by decide) (fun h51 => ?_) (fun h51 => ?_)
          · exact absurd h51 (by decide)
          · refine r_iconst (v := (nI 4)) dX2_neighbour_54 (by decide) ?_
            refine r_iload_n dX2_neighbour_55 rfl ?_
            refine r_imul dX2_neighbour_56 ?_
            refine r_iload_n dX2_neighbour_57 rfl ?_
            refine r_iadd dX2_neighbour_58 ?_
            refine r_pc 59 rfl ?_
            refine r_goto 63 dX2_neighbour_59 (by decide) ?_
            exact r_iret dX2_neighbour_63 rfl rfl rfl
end
section
/-! ===== the worlds of the class (all its cells; the floor's alone) and of the reference ===== -/
def cW (tb : Nat → Int32) (tl : Int32) (tc : Nat → Int32) (tn : Int32) (fc ff fs ft fu fw : Nat → Int32) (fy fd : Int32) (dc : Nat → Int32) (dp dq : Nat → Int64) (dn dm : Int32) (ec : Nat → Int32) (ep eq : Nat → Int64) (en em ik : Int32) (lr : Nat → Int32) (ln ly : Int32) (wh : Int64) (wr : Nat → Int64) (wf wb : Nat → Int32) (wn : Int32) (wc : Nat → Int32) (ws : Int64) (wa pw pf pl : Int32) (ta : Nat → Int32) : List AE := [.inr (6, [.ref 1, .ref 4, .ref 11, .ref 15, .int ik, .ref 19, .ref 21, .ref 26, .ref 27]), .inr (4, [.ref 2, .int tl, .ref 3, .int tn]), .inl (0, 120, .inl tb), .inl (0, 120, .inl tc), .inr (2, [.ref 5, .ref 6, .ref 7, .ref 8, .ref 9, .ref 10, .int fy, .int fd]), .inl (0, 8, .inl fc), .inl (0, 8, .inl ff), .inl (0, 16, .inl fs), .inl (0, 8, .inl ft), .inl (0, 8, .inl fu), .inl (0, 8, .inl fw), .inr (0, [.ref 12, .ref 13, .ref 14, .int dn, .int dm]), .inl (0, 200, .inl dc), .inl (1, 201, .inr (.inl dp)), .inl (1, 201, .inr (.inl dq)), .inr (0, [.ref 16, .ref 17, .ref 18, .int en, .int em]), .inl (0, 200, .inl ec), .inl (1, 201, .inr (.inl ep)), .inl (1, 201, .inr (.inl eq)), .inr (1, [.ref 20, .int ln, .int ly]), .inl (0, 8, .inl lr), .inr (5, [.ref 4, .long wh, .ref 22, .ref 23, .ref 24, .int wn, .ref 25, .long ws, .int wa]), .inl (1, 250, .inr (.inl wr)), .inl (0, 250, .inl wf), .inl (0, 250, .inl wb), .inl (0, 250, .inl wc), .inr (3, [.int pw, .int pf, .int pl]), .inl (0, 12, .inl ta)]
def cF (x0 x1 x2 x3 : AE) (fc ff fs ft fu fw : Nat → Int32) (fy fd : Int32) (po : List AE) : List AE := x0 :: x1 :: x2 :: x3 :: .inr (2, [.ref 5, .ref 6, .ref 7, .ref 8, .ref 9, .ref 10, .int fy, .int fd]) :: .inl (0, 8, .inl fc) :: .inl (0, 8, .inl ff) :: .inl (0, 16, .inl fs) :: .inl (0, 8, .inl ft) :: .inl (0, 8, .inl fu) :: .inl (0, 8, .inl fw) :: po
def mW (rc rf ro rt ru rm rg : Nat → Int32) (rp rq : Int32) (ry rl : Nat → Int32) (rn ra : Int32) (rw rk : Nat → Int64) (rx rz rd : Nat → Int32) (rM rU rK : Int32) (rT rR : Nat → Int32) (rL rN rA rF : Int32) (rC : Nat → Int64) (rO rB rY rP : Nat → Int32) (rb : Int32) : List AE := [.inr (7, [.ref 101, .ref 102, .ref 103, .ref 104, .ref 105, .ref 106, .ref 107, .ref 108, .ref 109, .int rp, .int rq, .ref 110, .ref 111, .int rn, .int ra, .ref 112, .ref 113, .ref 114, .ref 115, .ref 116, .int rM, .int rU, .int rK, .ref 117, .ref 118, .int rL, .int rN, .int rA, .int rF, .ref 119, .ref 120, .ref 121, .ref 122, .ref 123, .int rb]), .inl (3, 9, .inr (.inr (.inr (.inr (fun j => some (2000 + j)))))), .inl (3, 12, .inr (.inr (.inr (.inr (fun j => some (2009 + j)))))), .inl (0, 8, .inl rc), .inl (0, 8, .inl rf), .inl (0, 16, .inl ro), .inl (0, 8, .inl rt), .inl (0, 8, .inl ru), .inl (0, 8, .inl rm), .inl (2, 8, .inl rg), .inl (0, 8, .inl ry), .inl (0, 8, .inl rl), .inl (1, 201, .inr (.inl rw)), .inl (1, 201, .inr (.inl rk)), .inl (0, 200, .inl rx), .inl (0, 200, .inl rz), .inl (0, 12, .inl rd), .inl (0, 120, .inl rT), .inl (0, 120, .inl rR), .inl (1, 251, .inr (.inl rC)), .inl (0, 251, .inl rO), .inl (0, 251, .inl rB), .inl (0, 251, .inl rY), .inl (0, 4000, .inl rP)]
/-! ===== words for squares ===== -/
def nb (c f : Nat) : Option Nat := if f = 0 then (if c / 4 < 3 then some (c + 4) else none) else if f = 1 then (if c % 4 < 3 then some (c + 1) else none) else if f = 2 then (if 1 ≤ c / 4 then some (c - 4) else none) else (if 1 ≤ c % 4 then some (c - 1) else none)
def stI (o : Option Nat) : Int32 := match o with
  | none => -1
  | some d => nI d
def bI (b : Bool) : Int32 := match b with
  | true => nI 1
  | false => nI 0
theorem nbI_nb0 : ∀ c, c < 16 → ∀ f, f < 4 → nbI c f = stI (nb c f) := by decide +kernel
theorem nb_lt0 : ∀ c, c < 16 → ∀ f, f < 4 → (nb c f).all (fun x => decide (x < 16)) = true := by decide +kernel
theorem nb_lt {c f x : Nat} (hc : c < 16) (hf : f < 4) (h : nb c f = some x) : x < 16 := by
  have := nb_lt0 c hc f hf
  rw [h] at this
  simpa using this
theorem nI_m1 {x : Nat} (h : x < 2 ^ 31) : ¬ nI x = -1 := by
  intro q
  have h1 := nI_toInt h
  rw [q] at h1
  have h2 : ((-1 : Int32)).toInt = -1 := by decide
  omega
theorem stI_eq {o : Option Nat} (h : ∀ x, o = some x → x < 2 ^ 31) : stI o = -1 ↔ o = none := by
  cases o with
  | none => simp [stI]
  | some x => simp [stI, nI_m1 (h x rfl)]
/-- the floor shows the square (c, f): who stands where -/
def who (c : Nat → Nat) : Nat → Nat → Option Nat
  | 0, _ => none
  | n + 1, x => if c n = x then some n else who c n x
theorem who_lt {c : Nat → Nat} : ∀ {n x d : Nat}, who c n x = some d → d < n
  | 0, x, d, h => by simp [who] at h
  | n + 1, x, d, h => by
    unfold who at h
    split at h
    · cases h; omega
    · have := who_lt h; omega
def Sq (fc ff : Nat → Int32) (c f : Nat → Nat) : Prop := ∀ j, j < 8 → fc j = nI (c j) ∧ c j < 16 ∧ ff j = nI (f j) ∧ f j < 4
def Sd (fs : Nat → Int32) (c : Nat → Nat) : Prop := ∀ x, x < 16 → fs x = stI (who c 8 x)
def bes (c f : Nat → Nat) (d r : Nat) : Option Nat := match nb (c d) ((f d + r) % 4) with
  | none => none
  | some x => who c 8 x
theorem bes_lt {c f : Nat → Nat} {d r e : Nat} (h : bes c f d r = some e) : e < 8 := by
  unfold bes at h
  split at h
  · cases h
  · exact who_lt h
theorem upd_lt {f g : Nat → Int32} {i : Nat} {v : Int32} (h : ∀ j, j < i → f j = g j) (hv : v = g i) : ∀ j, j < i + 1 → upd f i v j = g j := by
  intro j hj
  by_cases e : j = i
  · subst e
    rw [pk_us]
    exact hv
  · rw [pk_un e]
    exact h j (by omega)
theorem updL_lt {f g : Nat → Int64} {i : Nat} {v : Int64} (h : ∀ j, j < i → f j = g j) (hv : v = g i) : ∀ j, j < i + 1 → vp_updL f i v j = g j := by
  intro j hj
  by_cases e : j = i
  · subst e
    rw [pk_uLs]
    exact hv
  · rw [pk_uLn e]
    exact h j (by omega)
theorem who_step {fs : Nat → Int32} {c : Nat → Nat} {i : Nat} (h : ∀ x, x < 16 → fs x = stI (who c i x)) : ∀ x, x < 16 → upd fs (c i) (nI i) x = stI (who c (i + 1) x) := by
  intro x hx
  unfold who
  by_cases e : c i = x
  · subst e
    rw [pk_us, if_pos rfl]
    rfl
  · rw [pk_un (fun z => e z.symm), if_neg e]
    exact h x hx
/-- whether o faces as d does -/
def lik (f : Nat → Nat) (d : Nat) (o : Option Nat) : Bool := match o with
  | none => false
  | some e => decide (f e = f d)
def cen (c : Nat) : Bool := decide (1 ≤ c % 4 ∧ c % 4 ≤ 2 ∧ 1 ≤ c / 4 ∧ c / 4 ≤ 2)
/-- who is meant by word n -/
def mnt (c f : Nat → Nat) (n d : Nat) : Bool := match n with
  | 0 => true
  | 1 => decide (d / 2 % 2 = 0)
  | 2 => decide (d / 2 % 2 = 1)
  | 3 => decide (d % 2 = 0)
  | 4 => decide (d % 2 = 1)
  | 5 => cen (c d)
  | 6 => !cen (c d)
  | 7 => lik f d (bes c f d 3)
  | 8 => lik f d (bes c f d 1)
  | _ => false
/-- as bits -/
def mbI (p : Nat → Bool) : Nat → Int32
  | 0 => nI 0
  | n + 1 => match p n with
    | true => mbI p n ||| (nI 1 <<< (nI n &&& 31))
    | false => mbI p n
theorem mb_bits : ∀ b0 b1 b2 b3 b4 b5 b6 b7 : Bool, ∀ d, d < 8 → (decide ((mbI (fun j => [b0, b1, b2, b3, b4, b5, b6, b7].getD j false) 8 >>> (nI d &&& 31)) &&& nI 1 = nI 1) = [b0, b1, b2, b3, b4, b5, b6, b7].getD d false) := by decide +kernel
theorem mbI_ext {p q : Nat → Bool} : ∀ n, (∀ j, j < n → p j = q j) → mbI p n = mbI q n
  | 0, _ => rfl
  | n + 1, h => by
    unfold mbI
    rw [h n (by omega), mbI_ext n (fun j hj => h j (by omega))]
theorem mb_list (p : Nat → Bool) : ∀ j, j < 8 → p j = [p 0, p 1, p 2, p 3, p 4, p 5, p 6, p 7].getD j false := by
  intro j hj
  match j, hj with
  | 0, _ => rfl
  | 1, _ => rfl
  | 2, _ => rfl
  | 3, _ => rfl
  | 4, _ => rfl
  | 5, _ => rfl
  | 6, _ => rfl
  | 7, _ => rfl
theorem mb_bit (p : Nat → Bool) {d : Nat} (hd : d < 8) : ((mbI p 8 >>> (nI d &&& 31)) &&& nI 1 = nI 1) ↔ p d = true := by
  have h := mb_bits (p 0) (p 1) (p 2) (p 3) (p 4) (p 5) (p 6) (p 7) d hd
  rw [← mb_list p d hd, ← mbI_ext 8 (mb_list p)] at h
  rw [← h]
  simp
theorem mb_zeros : ∀ b0 b1 b2 b3 b4 b5 b6 b7 : Bool, decide (mbI (fun j => [b0, b1, b2, b3, b4, b5, b6, b7].getD j false) 8 = 0) = (!b0 && !b1 && !b2 && !b3 && !b4 && !b5 && !b6 && !b7) := by decide +kernel
theorem mb_zero (p : Nat → Bool) : mbI p 8 = 0 ↔ ∀ d, d < 8 → p d = false := by
  have h := mb_zeros (p 0) (p 1) (p 2) (p 3) (p 4) (p 5) (p 6) (p 7)
  rw [← mbI_ext 8 (mb_list p)] at h
  constructor
  · intro h1 d hd
    rw [h1] at h
    simp at h
    obtain ⟨⟨⟨⟨⟨⟨⟨a0, a1⟩, a2⟩, a3⟩, a4⟩, a5⟩, a6⟩, a7⟩ := h
    match d, hd with
    | 0, _ => exact a0
    | 1, _ => exact a1
    | 2, _ => exact a2
    | 3, _ => exact a3
    | 4, _ => exact a4
    | 5, _ => exact a5
    | 6, _ => exact a6
    | 7, _ => exact a7
  · intro h1
    rw [h1 0 (by decide), h1 1 (by decide), h1 2 (by decide), h1 3 (by decide), h1 4 (by decide), h1 5 (by decide), h1 6 (by decide), h1 7 (by decide)] at h
    simpa using h
end
section
theorem s_facingOf (w : WD) (q : Int64) (d : Int32) : Sem mX3_facingOf 1 0 0 [.long q, .int d] w (some (.int ((q >>> ((nI 6 * d + nI 4).toInt64 &&& 63)).toInt32 &&& nI 3))) w := by
  refine sem_of (by decide) (Nat.le_of_ble_eq_true rfl) rfl ?_
  refine r_lload_n dX3_facingOf_0 rfl ?_
  refine r_bipush (v := (nI 6)) dX3_facingOf_1 (by decide) ?_
  refine r_iload_n dX3_facingOf_3 rfl ?_
  refine r_imul dX3_facingOf_4 ?_
  refine r_iconst (v := (nI 4)) dX3_facingOf_5 (by decide) ?_
  refine r_pc 6 rfl ?_
  refine r_iadd dX3_facingOf_6 ?_
  refine r_lshr dX3_facingOf_7 ?_
  refine r_l2i dX3_facingOf_8 ?_
  refine r_iconst (v := (nI 3)) dX3_facingOf_9 (by decide) ?_
  refine r_iand dX3_facingOf_10 ?_
  refine r_pc 11 rfl ?_
  exact r_iret dX3_facingOf_11 rfl rfl rfl
section F1
variable {x0 x1 x2 x3 : AE} {fc ff fs ft fu fw : Nat → Int32} {fy fd : Int32} {po : List AE}
variable {R : List AE} {c f : Nat → Nat}
theorem s_beside {d r : Nat} (hd : d < 8) (hr : r < 4) (hS : Sq fc ff c f) (hs : Sd fs c) : Sem mX2_beside 2 0 0 [.ref 4, .int (nI d), .int (nI r)] (cF x0 x1 x2 x3 fc ff fs ft fu fw fy fd po, R) (some (.int (stI (bes c f d r)))) (cF x0 x1 x2 x3 fc ff fs ft fu fw fy fd po, R) := by
  refine sem_of (by decide) (Nat.le_of_ble_eq_true rfl) rfl ?_
  obtain ⟨e1, h1, e2, h2⟩ := hS d hd
  have hm : (f d + r) % 4 < 4 := Nat.mod_lt _ (by decide)
  unfold bes
  refine r_aload_n dX2_beside_0 rfl ?_
  refine r_get dX2_beside_1 fX2_9 rfl rfl ?_
  refine r_iload_n dX2_beside_4 rfl ?_
  refine r_iald dX2_beside_5 rfl rfl hd (by decide) ?_
  refine r_pc 6 rfl ?_
  refine r_topi _ e1 ?_
  refine r_aload_n dX2_beside_6 rfl ?_
  refine r_get dX2_beside_7 fX2_15 rfl rfl ?_
  refine r_iload_n dX2_beside_10 rfl ?_
  refine r_iald dX2_beside_11 rfl rfl hd (by decide) ?_
  refine r_pc 12 rfl ?_
  refine r_topi _ e2 ?_
  refine r_iload_n dX2_beside_12 rfl ?_
  refine r_iaddN dX2_beside_13 ?_
  refine r_pc 14 rfl ?_
  refine r_cS dX2_beside_14 (s_neighbour _ (c d) (f d + r) h1 (by omega)) lX2_85 rfl rfl (by decide) ⟨Nat.le_refl _, Nat.le_refl _⟩ (Nat.le_of_ble_eq_true rfl) ?_
  refine r_topi _ (nbI_nb0 _ h1 _ hm) ?_
  refine r_istore_n (ls' := [_, _, _, _]) dX2_beside_17 (by decide) rfl ?_
  refine r_iload_n dX2_beside_18 rfl ?_
  refine r_iconst (v := (-1)) dX2_beside_19 (by decide) ?_
  refine r_pc 20 rfl ?_
  refine r_icmp_ne 27 dX2_beside_20 (by decide) (fun h20 => ?_) (fun h20 => ?_)
  · cases hn : nb (c d) ((f d + r) % 4) with
    | none => exact absurd (by rw [hn]; rfl) h20
    | some x =>
      have hx := nb_lt h1 hm hn
      refine r_aload_n dX2_beside_27 rfl ?_
      refine r_get dX2_beside_28 fX2_18 rfl rfl ?_
      refine r_iload_n dX2_beside_31 rfl ?_
      refine r_pc 32 rfl ?_
      refine r_topi (nI x) rfl ?_
      refine r_iald dX2_beside_32 rfl rfl hx (by decide) ?_
      refine r_pc 33 rfl ?_
      exact r_iret dX2_beside_33 rfl (by rw [hs x hx]) rfl
  · have hn : nb (c d) ((f d + r) % 4) = none := (stI_eq (fun x hx => by have := nb_lt h1 hm hx; omega)).mp h20
    rw [hn]
    refine r_iconst (v := (-1)) dX2_beside_23 (by decide) ?_
    refine r_goto 33 dX2_beside_24 (by decide) ?_
    exact r_iret dX2_beside_33 rfl rfl rfl
theorem s_facesLike {d : Nat} {o : Option Nat} (hd : d < 8) (ho : ∀ e, o = some e → e < 8) (hS : Sq fc ff c f) : Sem mX2_facesLike 1 0 0 [.ref 4, .int (nI d), .int (stI o)] (cF x0 x1 x2 x3 fc ff fs ft fu fw fy fd po, R) (some (.int (bI (lik f d o)))) (cF x0 x1 x2 x3 fc ff fs ft fu fw fy fd po, R) := by
  refine sem_of (by decide) (Nat.le_of_ble_eq_true rfl) rfl ?_
  obtain ⟨-, -, e1, h1⟩ := hS d hd
  cases o with
  | none =>
    refine r_iload_n dX2_facesLike_0 rfl ?_
    refine r_iconst (v := (-1)) dX2_facesLike_1 (by decide) ?_
    refine r_icmp_eq 24 dX2_facesLike_2 (by decide) (fun h2 => ?_) (fun h2 => ?_)
    · refine r_pc 24 rfl ?_
      refine r_iconst (v := (nI 0)) dX2_facesLike_24 (by decide) ?_
      exact r_zret dX2_facesLike_25 rfl rfl rfl rfl
    · exact absurd rfl h2
  | some e =>
    have he := ho e rfl
    obtain ⟨-, -, e2, h3⟩ := hS e he
    refine r_iload_n dX2_facesLike_0 rfl ?_
    refine r_iconst (v := (-1)) dX2_facesLike_1 (by decide) ?_
    refine r_icmp_eq 24 dX2_facesLike_2 (by decide) (fun h2 => ?_) (fun h2 => ?_)
    · exact absurd h2 (nI_m1 (by omega))
    · refine r_pc 5 rfl ?_
      refine r_aload_n dX2_facesLike_5 rfl ?_
      refine r_get dX2_facesLike_6 fX2_15 rfl rfl ?_
      refine r_iload_n dX2_facesLike_9 rfl ?_
      refine r_iald dX2_facesLike_10 rfl rfl he (by decide) ?_
      refine r_aload_n dX2_facesLike_11 rfl ?_
      refine r_pc 12 rfl ?_
      refine r_get dX2_facesLike_12 fX2_15 rfl rfl ?_
      refine r_iload_n dX2_facesLike_15 rfl ?_
      refine r_iald dX2_facesLike_16 rfl rfl hd (by decide) ?_
      refine r_icmp_ne 24 dX2_facesLike_17 (by decide) (fun h17 => ?_) (fun h17 => ?_)
      · have hq : ¬ f e = f d := fun q => h17 (by rw [e1, e2, q])
        refine r_pc 24 rfl ?_
        refine r_iconst (v := (nI 0)) dX2_facesLike_24 (by decide) ?_
        exact r_zret dX2_facesLike_25 rfl rfl (by simp [hq, bI, lik]) rfl
      · have hq : f e = f d := (nI_eq (by omega) (by omega)).mp (by rw [← e1, ← e2]; exact h17)
        refine r_pc 20 rfl ?_
        refine r_iconst (v := (nI 1)) dX2_facesLike_20 (by decide) ?_
        refine r_goto 25 dX2_facesLike_21 (by decide) ?_
        exact r_zret dX2_facesLike_25 rfl rfl (by simp [hq, bI, lik]) rfl
theorem s_isCenter (w : WD) {c : Nat} (hc : c < 16) : Sem mX2_isCenter 1 0 0 [.int (nI c)] w (some (.int (bI (cen c)))) w := by
  refine sem_of (by decide) (Nat.le_of_ble_eq_true rfl) rfl ?_
  refine r_iload_n dX2_isCenter_0 rfl ?_
  refine r_iconst (v := (nI 4)) dX2_isCenter_1 (by decide) ?_
  refine r_iremN dX2_isCenter_2 (by omega) (by decide) (by decide) ?_
  refine r_istore_n (ls' := [_, _, _]) dX2_isCenter_3 (by decide) rfl ?_
  refine r_iload_n dX2_isCenter_4 rfl ?_
  refine r_pc 5 rfl ?_
  refine r_iconst (v := (nI 4)) dX2_isCenter_5 (by decide) ?_
  refine r_idivN dX2_isCenter_6 (by omega) (by decide) (by decide) ?_
  refine r_istore_n (ls' := [_, _, _]) dX2_isCenter_7 (by decide) rfl ?_
  refine r_iload_n dX2_isCenter_8 rfl ?_
  refine r_iconst (v := (nI 1)) dX2_isCenter_9 (by decide) ?_
  refine r_pc 10 rfl ?_
  refine r_icmp_ltN 32 dX2_isCenter_10 (by decide) (by omega) (by omega) (fun h10 => ?_) (fun h10 => ?_)
  · refine r_pc 32 rfl ?_
    refine r_iconst (v := (nI 0)) dX2_isCenter_32 (by decide) ?_
    exact r_zret dX2_isCenter_33 rfl rfl (by first | rfl | (rw [show cen c = false from decide_eq_false (by omega)]; rfl)) rfl
  · refine r_pc 13 rfl ?_
    refine r_iload_n dX2_isCenter_13 rfl ?_
    refine r_iconst (v := (nI 2)) dX2_isCenter_14 (by decide) ?_
    refine r_icmp_gtN 32 dX2_isCenter_15 (by decide) (by omega) (by omega) (fun h15 => ?_) (fun h15 => ?_)
    · refine r_pc 32 rfl ?_
      refine r_iconst (v := (nI 0)) dX2_isCenter_32 (by decide) ?_
      exact r_zret dX2_isCenter_33 rfl rfl (by first | rfl | (rw [show cen c = false from decide_eq_false (by omega)]; rfl)) rfl
    · refine r_pc 18 rfl ?_
      refine r_iload_n dX2_isCenter_18 rfl ?_
      refine r_iconst (v := (nI 1)) dX2_isCenter_19 (by decide) ?_
      refine r_icmp_ltN 32 dX2_isCenter_20 (by decide) (by omega) (by omega) (fun h20 => ?_) (fun h20 => ?_)
      · refine r_pc 32 rfl ?_
        refine r_iconst (v := (nI 0)) dX2_isCenter_32 (by decide) ?_
        exact r_zret dX2_isCenter_33 rfl rfl (by first | rfl | (rw [show cen c = false from decide_eq_false (by omega)]; rfl)) rfl
      · refine r_pc 23 rfl ?_
        refine r_iload_n dX2_isCenter_23 rfl ?_
        refine r_iconst (v := (nI 2)) dX2_isCenter_24 (by decide) ?_
        refine r_icmp_gtN 32 dX2_isCenter_25 (by decide) (by omega) (by omega) (fun h25 => ?_) (fun h25 => ?_)
        · refine r_pc 32 rfl ?_
          refine r_iconst (v := (nI 0)) dX2_isCenter_32 (by decide) ?_
          exact r_zret dX2_isCenter_33 rfl rfl (by first | rfl | (rw [show cen c = false from decide_eq_false (by omega)]; rfl)) rfl
        · have hq : cen c = true := decide_eq_true (by omega)
          rw [hq]
          refine r_pc 28 rfl ?_
          refine r_iconst (v := (nI 1)) dX2_isCenter_28 (by decide) ?_
          refine r_goto 33 dX2_isCenter_29 (by decide) ?_
          exact r_zret dX2_isCenter_33 rfl rfl (by first | rfl | (rw [show cen c = false from decide_eq_false (by omega)]; rfl)) rfl
theorem s_goes {d : Nat} (hd : d < 8) : Sem mX2_goes 1 0 0 [.ref 4, .int (nI d)] (cF x0 x1 x2 x3 fc ff fs ft fu fw fy fd po, R) (some (.int (bI (decide (¬ ft d = fc d))))) (cF x0 x1 x2 x3 fc ff fs ft fu fw fy fd po, R) := by
  refine sem_of (by decide) (Nat.le_of_ble_eq_true rfl) rfl ?_
  refine r_aload_n dX2_goes_0 rfl ?_
  refine r_get dX2_goes_1 fX2_21 rfl rfl ?_
  refine r_iload_n dX2_goes_4 rfl ?_
  refine r_iald dX2_goes_5 rfl rfl hd (by decide) ?_
  refine r_aload_n dX2_goes_6 rfl ?_
  refine r_pc 7 rfl ?_
  refine r_get dX2_goes_7 fX2_9 rfl rfl ?_
  refine r_iload_n dX2_goes_10 rfl ?_
  refine r_iald dX2_goes_11 rfl rfl hd (by decide) ?_
  refine r_icmp_eq 19 dX2_goes_12 (by decide) (fun h12 => ?_) (fun h12 => ?_)
  · refine r_pc 19 rfl ?_
    refine r_iconst (v := (nI 0)) dX2_goes_19 (by decide) ?_
    exact r_zret dX2_goes_20 rfl rfl (by simp [h12, bI]) rfl
  · refine r_pc 15 rfl ?_
    refine r_iconst (v := (nI 1)) dX2_goes_15 (by decide) ?_
    refine r_goto 20 dX2_goes_16 (by decide) ?_
    exact r_zret dX2_goes_20 rfl rfl (by simp [h12, bI]) rfl
theorem s_turn {d r : Nat} (hd : d < 8) (hr : r < 4) (hS : Sq fc ff c f) : Sem mX2_turn 1 0 0 [.ref 4, .int (nI d), .int (nI r)] (cF x0 x1 x2 x3 fc ff fs ft fu fw fy fd po, R) none (cF x0 x1 x2 x3 fc ff fs ft (upd fu d (nI ((f d + r) % 4))) fw fy fd po, R) := by
  refine sem_of (by decide) (Nat.le_of_ble_eq_true rfl) rfl ?_
  obtain ⟨-, -, e1, h1⟩ := hS d hd
  refine r_aload_n dX2_turn_0 rfl ?_
  refine r_get dX2_turn_1 fX2_24 rfl rfl ?_
  refine r_iload_n dX2_turn_4 rfl ?_
  refine r_aload_n dX2_turn_5 rfl ?_
  refine r_get dX2_turn_6 fX2_15 rfl rfl ?_
  refine r_pc 9 rfl ?_
  refine r_iload_n dX2_turn_9 rfl ?_
  refine r_iald dX2_turn_10 rfl rfl hd (by decide) ?_
  refine r_pc 11 rfl ?_
  refine r_topi _ e1 ?_
  refine r_iload_n dX2_turn_11 rfl ?_
  refine r_iaddN dX2_turn_12 ?_
  refine r_iconst (v := (nI 4)) dX2_turn_13 (by decide) ?_
  refine r_iremN dX2_turn_14 (by omega) (by decide) (by decide) ?_
  refine r_iast (w2 := (cF _ _ _ _ _ _ _ _ _ _ _ _ _, _)) dX2_turn_15 rfl rfl hd (by decide) rfl ?_
  refine r_pc 16 rfl ?_
  exact r_vret dX2_turn_16 rfl rfl rfl
end F1
end
section
/-! ===== load ===== -/
def sqc (q : Int64) (d : Nat) : Nat := (q >>> ((nI (6 * d)).toInt64 &&& 63)).toInt32.toBitVec.toNat % 2 ^ 4
def sqf (q : Int64) (d : Nat) : Nat := (q >>> ((nI (6 * d + 4)).toInt64 &&& 63)).toInt32.toBitVec.toNat % 2 ^ 2
theorem sqc_lt (q : Int64) (d : Nat) : sqc q d < 16 := Nat.mod_lt _ (by decide)
theorem sqf_lt (q : Int64) (d : Nat) : sqf q d < 4 := Nat.mod_lt _ (by decide)
theorem sqc_eq (q : Int64) (d : Nat) : (q >>> ((nI 6 * nI d).toInt64 &&& 63)).toInt32 &&& nI 15 = nI (sqc q d) := by
  rw [pk_mul]
  exact pk_and _ 4 (by decide)
theorem sqf_eq (q : Int64) (d : Nat) : (q >>> ((nI 6 * nI d + nI 4).toInt64 &&& 63)).toInt32 &&& nI 3 = nI (sqf q d) := by
  rw [pk_mul, nI_add]
  exact pk_and _ 2 (by decide)
section F2
variable {x0 x1 x2 x3 : AE} {fc ff fs ft fu fw : Nat → Int32} {fy fd : Int32} {po : List AE}
variable {R : List AE} {c f : Nat → Nat}
theorem weq_F {fc' ff' fs' ft' fu' fw' : Nat → Int32} (h1 : ∀ j, j < 8 → fc j = fc' j) (h2 : ∀ j, j < 8 → ff j = ff' j) (h3 : ∀ j, j < 16 → fs j = fs' j) (h4 : ∀ j, j < 8 → ft j = ft' j) (h5 : ∀ j, j < 8 → fu j = fu' j) (h6 : ∀ j, j < 8 → fw j = fw' j) : weq (cF x0 x1 x2 x3 fc ff fs ft fu fw fy fd po, R) (cF x0 x1 x2 x3 (fc') (ff') (fs') (ft') (fu') (fw') fy fd po, R) :=
  ⟨⟨eeq_rf _, eeq_rf _, eeq_rf _, eeq_rf _, eeq_rf _, ⟨rfl, rfl, h1⟩, ⟨rfl, rfl, h2⟩, ⟨rfl, rfl, h3⟩, ⟨rfl, rfl, h4⟩, ⟨rfl, rfl, h5⟩, ⟨rfl, rfl, h6⟩, leq_rf _⟩, leq_rf _⟩
theorem s_load (q : Int64) : Sem mX2_load 2 0 0 [.ref 4, .long q] (cF x0 x1 x2 x3 fc ff fs ft fu fw fy fd po, R) none (cF x0 x1 x2 x3 (fun j => nI (sqc q j)) (fun j => nI (sqf q j)) (fun x => stI (who (sqc q) 8 x)) ft fu fw fy fd po, R) := by
  refine sem_of (by decide) (Nat.le_of_ble_eq_true rfl) rfl ?_
  generalize hw0 : (cF x0 x1 x2 x3 fc ff fs ft fu fw fy fd po, R) = w0
  have L2 : ∀ (n i : Nat) (fc ff fs : Nat → Int32) (x4 : Option Value), i + n = 8 → (∀ j, j < i → fc j = nI (sqc q j)) → (∀ j, j < i → ff j = nI (sqf q j)) → (∀ x, x < 16 → fs x = stI (who (sqc q) i x)) → Rn mX2_load 2 0 0 w0 none (cF x0 x1 x2 x3 (fun j => nI (sqc q j)) (fun j => nI (sqf q j)) (fun x => stI (who (sqc q) 8 x)) ft fu fw fy fd po, R) 0 0 23 [some (.ref 4), some (.long q), none, some (.int (nI i)), x4] [] (cF x0 x1 x2 x3 fc ff fs ft fu fw fy fd po, R) := by
    intro n
    induction n with
    | zero =>
      intro i fc ff fs x4 hi h1 h2 h3
      have : i = 8 := by omega
      subst this
      refine r_weq _ (weq_F h1 h2 h3 (fun _ _ => rfl) (fun _ _ => rfl) (fun _ _ => rfl)) ?_
      refine r_iload_n dX2_load_23 rfl ?_
      refine r_bipush (v := (nI 8)) dX2_load_24 (by decide) ?_
      refine r_icmp_geN 69 dX2_load_26 (by decide) (by omega) (by omega) (fun h26 => ?_) (fun h26 => ?_)
      · refine r_pc 69 rfl ?_
        exact r_vret dX2_load_69 rfl rfl rfl
      · exact absurd h26 (by omega)
    | succ n ih =>
      intro i fc ff fs x4 hi h1 h2 h3
      have hi8 : i < 8 := by omega
      refine r_iload_n dX2_load_23 rfl ?_
      refine r_bipush (v := (nI 8)) dX2_load_24 (by decide) ?_
      refine r_icmp_geN 69 dX2_load_26 (by decide) (by omega) (by omega) (fun h26 => ?_) (fun h26 => ?_)
      · exact absurd h26 (by omega)
      · refine r_pc 29 rfl ?_
        refine r_lload_n dX2_load_29 rfl ?_
        refine r_iload_n dX2_load_30 rfl ?_
        refine r_cS dX2_load_31 (s_cellOf _ q (nI i)) lX2_37 rfl rfl (by decide) ⟨Nat.le_refl _, Nat.le_refl _⟩ (Nat.le_of_ble_eq_true rfl) ?_
        refine r_topi _ (sqc_eq q i) ?_
        refine r_istore (ls' := [_, _, _, _, _]) dX2_load_34 (by decide) rfl ?_
        refine r_aload_n dX2_load_36 rfl ?_
        refine r_pc 37 rfl ?_
        refine r_get dX2_load_37 fX2_9 rfl rfl ?_
        refine r_iload_n dX2_load_40 rfl ?_
        refine r_iload dX2_load_41 rfl ?_
        refine r_iast (w2 := (cF _ _ _ _ _ _ _ _ _ _ _ _ _, _)) dX2_load_43 rfl rfl hi8 (by decide) rfl ?_
        refine r_aload_n dX2_load_44 rfl ?_
        refine r_pc 45 rfl ?_
        refine r_get dX2_load_45 fX2_15 rfl rfl ?_
        refine r_iload_n dX2_load_48 rfl ?_
        refine r_lload_n dX2_load_49 rfl ?_
        refine r_iload_n dX2_load_50 rfl ?_
        refine r_cS dX2_load_51 (s_facingOf _ q (nI i)) lX2_43 rfl rfl (by decide) ⟨Nat.le_refl _, Nat.le_refl _⟩ (Nat.le_of_ble_eq_true rfl) ?_
        refine r_pc 54 rfl ?_
        refine r_topi _ (sqf_eq q i) ?_
        refine r_iast (w2 := (cF _ _ _ _ _ _ _ _ _ _ _ _ _, _)) dX2_load_54 rfl rfl hi8 (by decide) rfl ?_
        refine r_aload_n dX2_load_55 rfl ?_
        refine r_get dX2_load_56 fX2_18 rfl rfl ?_
        refine r_iload dX2_load_59 rfl ?_
        refine r_iload_n dX2_load_61 rfl ?_
        refine r_pc 62 rfl ?_
        refine r_iast (w2 := (cF _ _ _ _ _ _ _ _ _ _ _ _ _, _)) dX2_load_62 rfl rfl (sqc_lt q i) (by decide) rfl ?_
        refine r_inc1 (ls' := [_, _, _, _, _]) dX2_load_63 (by decide) rfl rfl ?_
        refine r_goto 23 dX2_load_66 (by decide) ?_
        refine r_pc 23 rfl ?_
        exact ih (i + 1) _ _ _ _ (by omega) (upd_lt h1 rfl) (upd_lt h2 rfl) (who_step h3)
  have L1 : ∀ (n i : Nat) (fs : Nat → Int32), i + n = 16 → (∀ j, j < i → fs j = -1) → Rn mX2_load 2 0 0 w0 none (cF x0 x1 x2 x3 (fun j => nI (sqc q j)) (fun j => nI (sqf q j)) (fun x => stI (who (sqc q) 8 x)) ft fu fw fy fd po, R) 0 0 2 [some (.ref 4), some (.long q), none, some (.int (nI i)), none] [] (cF x0 x1 x2 x3 fc ff fs ft fu fw fy fd po, R) := by
    intro n
    induction n with
    | zero =>
      intro i fs hi h1
      refine r_iload_n dX2_load_2 rfl ?_
      refine r_bipush (v := (nI 16)) dX2_load_3 (by decide) ?_
      refine r_icmp_geN 21 dX2_load_5 (by decide) (by omega) (by omega) (fun h5 => ?_) (fun h5 => ?_)
      · refine r_pc 21 rfl ?_
        refine r_iconst (v := (nI 0)) dX2_load_21 (by decide) ?_
        refine r_istore_n (ls' := [_, _, _, _, _]) dX2_load_22 (by decide) rfl ?_
        refine r_pc 23 rfl ?_
        exact L2 8 0 _ _ _ _ (by omega) (fun j h => absurd h (by omega)) (fun j h => absurd h (by omega)) (fun x hx => h1 x (by omega))
      · exact absurd h5 (by omega)
    | succ n ih =>
      intro i fs hi h1
      refine r_iload_n dX2_load_2 rfl ?_
      refine r_bipush (v := (nI 16)) dX2_load_3 (by decide) ?_
      refine r_icmp_geN 21 dX2_load_5 (by decide) (by omega) (by omega) (fun h5 => ?_) (fun h5 => ?_)
      · exact absurd h5 (by omega)
      · refine r_pc 8 rfl ?_
        refine r_aload_n dX2_load_8 rfl ?_
        refine r_get dX2_load_9 fX2_18 rfl rfl ?_
        refine r_iload_n dX2_load_12 rfl ?_
        refine r_iconst (v := (-1)) dX2_load_13 (by decide) ?_
        refine r_iast (w2 := (cF _ _ _ _ _ _ _ _ _ _ _ _ _, _)) dX2_load_14 rfl rfl (by omega) (by decide) rfl ?_
        refine r_pc 15 rfl ?_
        refine r_inc1 (ls' := [_, _, _, _, _]) dX2_load_15 (by decide) rfl rfl ?_
        refine r_goto 2 dX2_load_18 (by decide) ?_
        refine r_pc 2 rfl ?_
        exact ih (i + 1) _ (by omega) (upd_lt (g := fun _ => -1) h1 rfl)
  subst hw0
  refine r_iconst (v := (nI 0)) dX2_load_0 (by decide) ?_
  refine r_istore_n (ls' := [_, _, _, _, _]) dX2_load_1 (by decide) rfl ?_
  refine r_pc 2 rfl ?_
  exact L1 16 0 _ (by omega) (fun j h => absurd h (by omega))
end F2
end
section
section F3
variable {x0 x1 x2 x3 : AE} {fc ff fs ft fu fw : Nat → Int32} {fy fd : Int32} {po : List AE}
variable {R : List AE} {c f : Nat → Nat}
theorem s_isMeant {d n : Nat} (hd : d < 8) (hn : n < 9) (hS : Sq fc ff c f) (hs : Sd fs c) : Sem mX2_isMeant 3 0 0 [.ref 4, .int (nI d), .int (nI n)] (cF x0 x1 x2 x3 fc ff fs ft fu fw fy fd po, R) (some (.int (bI (mnt c f n d)))) (cF x0 x1 x2 x3 fc ff fs ft fu fw fy fd po, R) := by
  refine sem_of (by decide) (Nat.le_of_ble_eq_true rfl) rfl ?_
  obtain ⟨e1, h1, e2, h2⟩ := hS d hd
  match n, hn with
  | 0, _ =>
    refine r_iload_n dX2_isMeant_0 rfl ?_
    refine r_tabIn 52 dX2_isMeant_1 (by decide) (by decide) rfl (by decide) ?_
    refine r_iconst (v := (nI 1)) dX2_isMeant_52 (by decide) ?_
    exact r_zret dX2_isMeant_53 rfl rfl rfl rfl
  | 1, _ =>
    refine r_iload_n dX2_isMeant_0 rfl ?_
    refine r_tabIn 54 dX2_isMeant_1 (by decide) (by decide) rfl (by decide) ?_
    refine r_iload_n dX2_isMeant_54 rfl ?_
    refine r_iconst (v := (nI 2)) dX2_isMeant_55 (by decide) ?_
    refine r_idivN dX2_isMeant_56 (by omega) (by decide) (by decide) ?_
    refine r_pc 57 rfl ?_
    refine r_iconst (v := (nI 2)) dX2_isMeant_57 (by decide) ?_
    refine r_iremN dX2_isMeant_58 (by omega) (by decide) (by decide) ?_
    refine r_if_ne 66 dX2_isMeant_59 (by decide) (fun h59 => ?_) (fun h59 => ?_)
    · have hq : ¬ d / 2 % 2 = 0 := fun q => h59 (by rw [q]; rfl)
      refine r_pc 66 rfl ?_
      refine r_iconst (v := (nI 0)) dX2_isMeant_66 (by decide) ?_
      exact r_zret dX2_isMeant_67 rfl rfl (by simp [mnt, hq, bI]) rfl
    · have hq : d / 2 % 2 = 0 := (nI_eq (by omega) (by omega)).mp h59
      refine r_pc 62 rfl ?_
      refine r_iconst (v := (nI 1)) dX2_isMeant_62 (by decide) ?_
      refine r_goto 67 dX2_isMeant_63 (by decide) ?_
      exact r_zret dX2_isMeant_67 rfl rfl (by simp [mnt, hq, bI]) rfl
  | 2, _ =>
    refine r_iload_n dX2_isMeant_0 rfl ?_
    refine r_tabIn 68 dX2_isMeant_1 (by decide) (by decide) rfl (by decide) ?_
    refine r_iload_n dX2_isMeant_68 rfl ?_
    refine r_iconst (v := (nI 2)) dX2_isMeant_69 (by decide) ?_
    refine r_idivN dX2_isMeant_70 (by omega) (by decide) (by decide) ?_
    refine r_pc 71 rfl ?_
    refine r_iconst (v := (nI 2)) dX2_isMeant_71 (by decide) ?_
    refine r_iremN dX2_isMeant_72 (by omega) (by decide) (by decide) ?_
    refine r_iconst (v := (nI 1)) dX2_isMeant_73 (by decide) ?_
    refine r_icmp_neN 81 dX2_isMeant_74 (by decide) (by omega) (by omega) (fun h74 => ?_) (fun h74 => ?_)
    · refine r_pc 81 rfl ?_
      refine r_iconst (v := (nI 0)) dX2_isMeant_81 (by decide) ?_
      exact r_zret dX2_isMeant_82 rfl rfl (by simp [mnt, h74, bI]) rfl
    · refine r_pc 77 rfl ?_
      refine r_iconst (v := (nI 1)) dX2_isMeant_77 (by decide) ?_
      refine r_goto 82 dX2_isMeant_78 (by decide) ?_
      exact r_zret dX2_isMeant_82 rfl rfl (by simp [mnt, h74, bI]) rfl
  | 3, _ =>
    refine r_iload_n dX2_isMeant_0 rfl ?_
    refine r_tabIn 83 dX2_isMeant_1 (by decide) (by decide) rfl (by decide) ?_
    refine r_iload_n dX2_isMeant_83 rfl ?_
    refine r_iconst (v := (nI 2)) dX2_isMeant_84 (by decide) ?_
    refine r_iremN dX2_isMeant_85 (by omega) (by decide) (by decide) ?_
    refine r_pc 86 rfl ?_
    refine r_if_ne 93 dX2_isMeant_86 (by decide) (fun h86 => ?_) (fun h86 => ?_)
    · have hq : ¬ d % 2 = 0 := fun q => h86 (by rw [q]; rfl)
      refine r_pc 93 rfl ?_
      refine r_iconst (v := (nI 0)) dX2_isMeant_93 (by decide) ?_
      exact r_zret dX2_isMeant_94 rfl rfl (by simp [mnt, hq, bI]) rfl
    · have hq : d % 2 = 0 := (nI_eq (by omega) (by omega)).mp h86
      refine r_pc 89 rfl ?_
      refine r_iconst (v := (nI 1)) dX2_isMeant_89 (by decide) ?_
      refine r_goto 94 dX2_isMeant_90 (by decide) ?_
      exact r_zret dX2_isMeant_94 rfl rfl (by simp [mnt, hq, bI]) rfl
  | 4, _ =>
    refine r_iload_n dX2_isMeant_0 rfl ?_
    refine r_tabIn 95 dX2_isMeant_1 (by decide) (by decide) rfl (by decide) ?_
    refine r_iload_n dX2_isMeant_95 rfl ?_
    refine r_iconst (v := (nI 2)) dX2_isMeant_96 (by decide) ?_
    refine r_iremN dX2_isMeant_97 (by omega) (by decide) (by decide) ?_
    refine r_pc 98 rfl ?_
    refine r_iconst (v := (nI 1)) dX2_isMeant_98 (by decide) ?_
    refine r_icmp_neN 106 dX2_isMeant_99 (by decide) (by omega) (by omega) (fun h99 => ?_) (fun h99 => ?_)
    · refine r_pc 106 rfl ?_
      refine r_iconst (v := (nI 0)) dX2_isMeant_106 (by decide) ?_
      exact r_zret dX2_isMeant_107 rfl rfl (by simp [mnt, h99, bI]) rfl
    · refine r_pc 102 rfl ?_
      refine r_iconst (v := (nI 1)) dX2_isMeant_102 (by decide) ?_
      refine r_goto 107 dX2_isMeant_103 (by decide) ?_
      exact r_zret dX2_isMeant_107 rfl rfl (by simp [mnt, h99, bI]) rfl
  | 5, _ =>
    refine r_iload_n dX2_isMeant_0 rfl ?_
    refine r_tabIn 108 dX2_isMeant_1 (by decide) (by decide) rfl (by decide) ?_
    refine r_aload_n dX2_isMeant_108 rfl ?_
    refine r_get dX2_isMeant_109 fX2_9 rfl rfl ?_
    refine r_iload_n dX2_isMeant_112 rfl ?_
    refine r_pc 113 rfl ?_
    refine r_iald dX2_isMeant_113 rfl rfl hd (by decide) ?_
    refine r_topi _ e1 ?_
    refine r_cS dX2_isMeant_114 (s_isCenter _ h1) lX2_116 rfl rfl (by decide) ⟨Nat.le_refl _, Nat.le_refl _⟩ (Nat.le_of_ble_eq_true rfl) ?_
    exact r_zret dX2_isMeant_117 rfl (by cases cen (c d) <;> rfl) rfl rfl
  | 6, _ =>
    refine r_iload_n dX2_isMeant_0 rfl ?_
    refine r_tabIn 118 dX2_isMeant_1 (by decide) (by decide) rfl (by decide) ?_
    refine r_aload_n dX2_isMeant_118 rfl ?_
    refine r_get dX2_isMeant_119 fX2_9 rfl rfl ?_
    refine r_iload_n dX2_isMeant_122 rfl ?_
    refine r_pc 123 rfl ?_
    refine r_iald dX2_isMeant_123 rfl rfl hd (by decide) ?_
    refine r_topi _ e1 ?_
    refine r_cS dX2_isMeant_124 (s_isCenter _ h1) lX2_116 rfl rfl (by decide) ⟨Nat.le_refl _, Nat.le_refl _⟩ (Nat.le_of_ble_eq_true rfl) ?_
    refine r_if_ne 134 dX2_isMeant_127 (by decide) (fun h127 => ?_) (fun h127 => ?_)
    · have hq : cen (c d) = true := by cases h : cen (c d) with | true => rfl | false => rw [h] at h127; exact absurd rfl h127
      refine r_pc 134 rfl ?_
      refine r_iconst (v := (nI 0)) dX2_isMeant_134 (by decide) ?_
      exact r_zret dX2_isMeant_135 rfl rfl (by simp [mnt, hq, bI]) rfl
    · have hq : cen (c d) = false := by cases h : cen (c d) with | false => rfl | true => rw [h] at h127; exact absurd h127 (by decide)
      refine r_pc 130 rfl ?_
      refine r_iconst (v := (nI 1)) dX2_isMeant_130 (by decide) ?_
      refine r_goto 135 dX2_isMeant_131 (by decide) ?_
      exact r_zret dX2_isMeant_135 rfl rfl (by simp [mnt, hq, bI]) rfl
  | 7, _ =>
    refine r_iload_n dX2_isMeant_0 rfl ?_
    refine r_tabIn 136 dX2_isMeant_1 (by decide) (by decide) rfl (by decide) ?_
    refine r_aload_n dX2_isMeant_136 rfl ?_
    refine r_iload_n dX2_isMeant_137 rfl ?_
    refine r_aload_n dX2_isMeant_138 rfl ?_
    refine r_pc 139 rfl ?_
    refine r_iload_n dX2_isMeant_139 rfl ?_
    refine r_iconst (v := (nI 3)) dX2_isMeant_140 (by decide) ?_
    refine r_cV dX2_isMeant_141 (s_beside hd (by decide) hS hs) lX2_103 rfl rfl rfl (by decide) ⟨Nat.le_refl _, Nat.le_refl _⟩ (Nat.le_of_ble_eq_true rfl) ?_
    refine r_cV dX2_isMeant_144 (s_facesLike hd (fun e he => bes_lt he) hS) lX2_119 rfl rfl rfl (by decide) ⟨Nat.le_refl _, Nat.le_refl _⟩ (Nat.le_of_ble_eq_true rfl) ?_
    exact r_zret dX2_isMeant_147 rfl (by cases lik f d (bes c f d 3) <;> rfl) rfl rfl
  | 8, _ =>
    refine r_iload_n dX2_isMeant_0 rfl ?_
    refine r_tabIn 148 dX2_isMeant_1 (by decide) (by decide) rfl (by decide) ?_
    refine r_aload_n dX2_isMeant_148 rfl ?_
    refine r_iload_n dX2_isMeant_149 rfl ?_
    refine r_aload_n dX2_isMeant_150 rfl ?_
    refine r_pc 151 rfl ?_
    refine r_iload_n dX2_isMeant_151 rfl ?_
    refine r_iconst (v := (nI 1)) dX2_isMeant_152 (by decide) ?_
    refine r_cV dX2_isMeant_153 (s_beside hd (by decide) hS hs) lX2_103 rfl rfl rfl (by decide) ⟨Nat.le_refl _, Nat.le_refl _⟩ (Nat.le_of_ble_eq_true rfl) ?_
    refine r_cV dX2_isMeant_156 (s_facesLike hd (fun e he => bes_lt he) hS) lX2_119 rfl rfl rfl (by decide) ⟨Nat.le_refl _, Nat.le_refl _⟩ (Nat.le_of_ble_eq_true rfl) ?_
    exact r_zret dX2_isMeant_159 rfl (by cases lik f d (bes c f d 1) <;> rfl) rfl rfl
theorem s_meantBy {n : Nat} (hn : n < 9) (hS : Sq fc ff c f) (hs : Sd fs c) : Sem mX2_meantBy 4 0 0 [.ref 4, .int (nI n)] (cF x0 x1 x2 x3 fc ff fs ft fu fw fy fd po, R) (some (.int (mbI (mnt c f n) 8))) (cF x0 x1 x2 x3 fc ff fs ft fu fw fy fd po, R) := by
  refine sem_of (by decide) (Nat.le_of_ble_eq_true rfl) rfl ?_
  have L : ∀ (m i : Nat), i + m = 8 → Rn mX2_meantBy 4 0 0 (cF x0 x1 x2 x3 fc ff fs ft fu fw fy fd po, R) (some (.int (mbI (mnt c f n) 8))) (cF x0 x1 x2 x3 fc ff fs ft fu fw fy fd po, R) 0 0 4 [some (.ref 4), some (.int (nI n)), some (.int (mbI (mnt c f n) i)), some (.int (nI i))] [] (cF x0 x1 x2 x3 fc ff fs ft fu fw fy fd po, R) := by
    intro m
    induction m with
    | zero =>
      intro i hi
      have : i = 8 := by omega
      subst this
      refine r_iload_n dX2_meantBy_4 rfl ?_
      refine r_bipush (v := (nI 8)) dX2_meantBy_5 (by decide) ?_
      refine r_icmp_geN 31 dX2_meantBy_7 (by decide) (by omega) (by omega) (fun h7 => ?_) (fun h7 => ?_)
      · refine r_pc 31 rfl ?_
        refine r_iload_n dX2_meantBy_31 rfl ?_
        exact r_iret dX2_meantBy_32 rfl rfl rfl
      · exact absurd h7 (by omega)
    | succ m ih =>
      intro i hi
      have hi8 : i < 8 := by omega
      have ih := ih (i + 1) (by omega)
      unfold mbI at ih
      cases hm : mnt c f n i with
      | true =>
        rw [hm] at ih
        refine r_iload_n dX2_meantBy_4 rfl ?_
        refine r_bipush (v := (nI 8)) dX2_meantBy_5 (by decide) ?_
        refine r_icmp_geN 31 dX2_meantBy_7 (by decide) (by omega) (by omega) (fun h7 => ?_) (fun h7 => ?_)
        · exact absurd h7 (by omega)
        · refine r_pc 10 rfl ?_
          refine r_aload_n dX2_meantBy_10 rfl ?_
          refine r_iload_n dX2_meantBy_11 rfl ?_
          refine r_iload_n dX2_meantBy_12 rfl ?_
          refine r_cV dX2_meantBy_13 (s_isMeant hi8 hn hS hs) lX2_113 rfl rfl rfl (by decide) ⟨Nat.le_refl _, Nat.le_refl _⟩ (Nat.le_of_ble_eq_true rfl) ?_
          rw [hm]
          refine r_if_eq 25 dX2_meantBy_16 (by decide) (fun h16 => ?_) (fun h16 => ?_)
          · exact absurd h16 (by decide)
          · refine r_pc 19 rfl ?_
            refine r_iload_n dX2_meantBy_19 rfl ?_
            refine r_iconst (v := (nI 1)) dX2_meantBy_20 (by decide) ?_
            refine r_iload_n dX2_meantBy_21 rfl ?_
            refine r_ishl dX2_meantBy_22 ?_
            refine r_ior dX2_meantBy_23 ?_
            refine r_pc 24 rfl ?_
            refine r_istore_n (ls' := [_, _, _, _]) dX2_meantBy_24 (by decide) rfl ?_
            refine r_inc1 (ls' := [_, _, _, _]) dX2_meantBy_25 (by decide) rfl rfl ?_
            refine r_goto 4 dX2_meantBy_28 (by decide) ?_
            refine r_pc 4 rfl ?_
            exact ih
      | false =>
        rw [hm] at ih
        refine r_iload_n dX2_meantBy_4 rfl ?_
        refine r_bipush (v := (nI 8)) dX2_meantBy_5 (by decide) ?_
        refine r_icmp_geN 31 dX2_meantBy_7 (by decide) (by omega) (by omega) (fun h7 => ?_) (fun h7 => ?_)
        · exact absurd h7 (by omega)
        · refine r_pc 10 rfl ?_
          refine r_aload_n dX2_meantBy_10 rfl ?_
          refine r_iload_n dX2_meantBy_11 rfl ?_
          refine r_iload_n dX2_meantBy_12 rfl ?_
          refine r_cV dX2_meantBy_13 (s_isMeant hi8 hn hS hs) lX2_113 rfl rfl rfl (by decide) ⟨Nat.le_refl _, Nat.le_refl _⟩ (Nat.le_of_ble_eq_true rfl) ?_
          rw [hm]
          refine r_if_eq 25 dX2_meantBy_16 (by decide) (fun h16 => ?_) (fun h16 => ?_)
          · refine r_pc 25 rfl ?_
            refine r_inc1 (ls' := [_, _, _, _]) dX2_meantBy_25 (by decide) rfl rfl ?_
            refine r_goto 4 dX2_meantBy_28 (by decide) ?_
            refine r_pc 4 rfl ?_
            exact ih
          · exact absurd rfl h16
  refine r_iconst (v := (nI 0)) dX2_meantBy_0 (by decide) ?_
  refine r_istore_n (ls' := [_, _, _, _]) dX2_meantBy_1 (by decide) rfl ?_
  refine r_iconst (v := (nI 0)) dX2_meantBy_2 (by decide) ?_
  refine r_istore_n (ls' := [_, _, _, _]) dX2_meantBy_3 (by decide) rfl ?_
  refine r_pc 4 rfl ?_
  exact L 8 0 (by omega)
theorem s_startPlan : Sem mX2_startPlan 1 0 0 [.ref 4] (cF x0 x1 x2 x3 fc ff fs ft fu fw fy fd po, R) none (cF x0 x1 x2 x3 fc ff fs (fc) (ff) (fun _ => nI 0) (nI 0) (nI 0) po, R) := by
  refine sem_of (by decide) (Nat.le_of_ble_eq_true rfl) rfl ?_
  generalize hw0 : (cF x0 x1 x2 x3 fc ff fs ft fu fw fy fd po, R) = w0
  have L : ∀ (m i : Nat) (ft fu fw : Nat → Int32), i + m = 8 → (∀ j, j < i → ft j = fc j) → (∀ j, j < i → fu j = ff j) → (∀ j, j < i → fw j = nI 0) → Rn mX2_startPlan 1 0 0 w0 none (cF x0 x1 x2 x3 fc ff fs (fc) (ff) (fun _ => nI 0) (nI 0) (nI 0) po, R) 0 0 2 [some (.ref 4), some (.int (nI i))] [] (cF x0 x1 x2 x3 fc ff fs ft fu fw fy fd po, R) := by
    intro m
    induction m with
    | zero =>
      intro i ft fu fw hi h1 h2 h3
      have : i = 8 := by omega
      subst this
      refine r_weq _ (weq_F (fun _ _ => rfl) (fun _ _ => rfl) (fun _ _ => rfl) h1 h2 h3) ?_
      refine r_iload_n dX2_startPlan_2 rfl ?_
      refine r_bipush (v := (nI 8)) dX2_startPlan_3 (by decide) ?_
      refine r_icmp_geN 45 dX2_startPlan_5 (by decide) (by omega) (by omega) (fun h5 => ?_) (fun h5 => ?_)
      · refine r_pc 45 rfl ?_
        refine r_aload_n dX2_startPlan_45 rfl ?_
        refine r_iconst (v := (nI 0)) dX2_startPlan_46 (by decide) ?_
        refine r_put (w2 := (cF _ _ _ _ _ _ _ _ _ _ _ _ _, _)) dX2_startPlan_47 fX2_30 rfl rfl (Nat.le_of_ble_eq_true rfl) (fun _ => rfl) (fun _ => rfl) rfl ?_
        refine r_aload_n dX2_startPlan_50 rfl ?_
        refine r_iconst (v := (nI 0)) dX2_startPlan_51 (by decide) ?_
        refine r_pc 52 rfl ?_
        refine r_put (w2 := (cF _ _ _ _ _ _ _ _ _ _ _ _ _, _)) dX2_startPlan_52 fX2_34 rfl rfl (Nat.le_of_ble_eq_true rfl) (fun _ => rfl) (fun _ => rfl) rfl ?_
        exact r_vret dX2_startPlan_55 rfl rfl rfl
      · exact absurd h5 (by omega)
    | succ m ih =>
      intro i ft fu fw hi h1 h2 h3
      have hi8 : i < 8 := by omega
      refine r_iload_n dX2_startPlan_2 rfl ?_
      refine r_bipush (v := (nI 8)) dX2_startPlan_3 (by decide) ?_
      refine r_icmp_geN 45 dX2_startPlan_5 (by decide) (by omega) (by omega) (fun h5 => ?_) (fun h5 => ?_)
      · exact absurd h5 (by omega)
      · refine r_pc 8 rfl ?_
        refine r_aload_n dX2_startPlan_8 rfl ?_
        refine r_get dX2_startPlan_9 fX2_21 rfl rfl ?_
        refine r_iload_n dX2_startPlan_12 rfl ?_
        refine r_aload_n dX2_startPlan_13 rfl ?_
        refine r_get dX2_startPlan_14 fX2_9 rfl rfl ?_
        refine r_pc 17 rfl ?_
        refine r_iload_n dX2_startPlan_17 rfl ?_
        refine r_iald dX2_startPlan_18 rfl rfl hi8 (by decide) ?_
        refine r_iast (w2 := (cF _ _ _ _ _ _ _ _ _ _ _ _ _, _)) dX2_startPlan_19 rfl rfl hi8 (by decide) rfl ?_
        refine r_aload_n dX2_startPlan_20 rfl ?_
        refine r_get dX2_startPlan_21 fX2_24 rfl rfl ?_
        refine r_pc 24 rfl ?_
        refine r_iload_n dX2_startPlan_24 rfl ?_
        refine r_aload_n dX2_startPlan_25 rfl ?_
        refine r_get dX2_startPlan_26 fX2_15 rfl rfl ?_
        refine r_iload_n dX2_startPlan_29 rfl ?_
        refine r_iald dX2_startPlan_30 rfl rfl hi8 (by decide) ?_
        refine r_pc 31 rfl ?_
        refine r_iast (w2 := (cF _ _ _ _ _ _ _ _ _ _ _ _ _, _)) dX2_startPlan_31 rfl rfl hi8 (by decide) rfl ?_
        refine r_aload_n dX2_startPlan_32 rfl ?_
        refine r_get dX2_startPlan_33 fX2_27 rfl rfl ?_
        refine r_iload_n dX2_startPlan_36 rfl ?_
        refine r_iconst (v := (nI 0)) dX2_startPlan_37 (by decide) ?_
        refine r_pc 38 rfl ?_
        refine r_iast (w2 := (cF _ _ _ _ _ _ _ _ _ _ _ _ _, _)) dX2_startPlan_38 rfl rfl hi8 (by decide) rfl ?_
        refine r_inc1 (ls' := [_, _]) dX2_startPlan_39 (by decide) rfl rfl ?_
        refine r_goto 2 dX2_startPlan_42 (by decide) ?_
        refine r_pc 2 rfl ?_
        exact ih (i + 1) _ _ _ (by omega) (upd_lt h1 rfl) (upd_lt h2 rfl) (upd_lt (g := fun _ => nI 0) h3 rfl)
  subst hw0
  refine r_iconst (v := (nI 0)) dX2_startPlan_0 (by decide) ?_
  refine r_istore_n (ls' := [_, _]) dX2_startPlan_1 (by decide) rfl ?_
  refine r_pc 2 rfl ?_
  exact L 8 0 _ _ _ (by omega) (fun j h => absurd h (by omega)) (fun j h => absurd h (by omega)) (fun j h => absurd h (by omega))
end F3
end
section
/-- the length of a constant array -/
theorem r_clen {Z : ZT} {X : XT} {M : MI} {k mc ms : Nat} {w0 : WD} {nc ns pc : Nat} {ls : List (Option Value)} {st : List Value} {w : WD} {q : String × String × String × FieldType × List Int32} {v : Int32} (a : Nat) (hq : zt_arr[a]? = some q) (hd : decode M.2.1 pc = .ok (.arraylength, 1)) (hv : Int32.ofNat q.2.2.2.2.length = v) (K : Rq Z X M k mc ms w0 nc ns (pc + 1) ls (.int v :: st) w) : Rq Z X M k mc ms w0 nc ns pc ls (.ref (1000 + a) :: st) w := by
  intro p l e s m args below meth c D cA ad0 A hC hX ad H locs lsA hg hP hD hS hl
  have K := K p l e s m args below meth c D cA ad0 A hC hX ad H locs lsA hg hP hD hS hl
  obtain ⟨hx, hb, hml, hrt, hlk, hnm, hown, hts, hK, hA, hSt⟩ := hC
  have hT := (hSt.1 a q hq).2
  rw [← hg.2 _ (Or.inr (Nat.le_add_right _ _))] at hT
  exact va_tlen hx hb hT hS hv hd K
def pkI (a b : Nat → Int32) : Nat → Int64
  | 0 => 0
  | n + 1 => pkI a b n ||| ((a n + nI 16 * b n).toInt64 <<< ((nI 6 * nI n).toInt64 &&& 63))
theorem s_of (w : WD) (p1 p2 : Nat) (a b : Nat → Int32) (h1 : wg w p1 = some (.inl (0, 8, .inl a))) (h2 : wg w p2 = some (.inl (0, 8, .inl b))) : Sem mX3_of 2 0 0 [.ref p1, .ref p2] w (some (.long (pkI a b 8))) w := by
  refine sem_of (by decide) (Nat.le_of_ble_eq_true rfl) rfl ?_
  have L : ∀ (m i : Nat), i + m = 8 → Rn mX3_of 2 0 0 w (some (.long (pkI a b 8))) w 0 0 5 [some (.ref p1), some (.ref p2), some (.long (pkI a b i)), none, some (.int (nI i))] [] w := by
    intro m
    induction m with
    | zero =>
      intro i hi
      have : i = 8 := by omega
      subst this
      refine r_iload dX3_of_5 rfl ?_
      refine r_bipush (v := (nI 8)) dX3_of_7 (by decide) ?_
      refine r_icmp_geN 48 dX3_of_9 (by decide) (by omega) (by omega) (fun h9 => ?_) (fun h9 => ?_)
      · refine r_pc 48 rfl ?_
        refine r_lload_n dX3_of_48 rfl ?_
        exact r_lret dX3_of_49 rfl rfl rfl
      · exact absurd h9 (by omega)
    | succ m ih =>
      intro i hi
      have hi8 : i < 8 := by omega
      refine r_iload dX3_of_5 rfl ?_
      refine r_bipush (v := (nI 8)) dX3_of_7 (by decide) ?_
      refine r_icmp_geN 48 dX3_of_9 (by decide) (by omega) (by omega) (fun h9 => ?_) (fun h9 => ?_)
      · exact absurd h9 (by omega)
      · refine r_pc 12 rfl ?_
        refine r_iload dX3_of_12 rfl ?_
        refine r_aload_n dX3_of_14 rfl ?_
        refine r_alen (v := nI 8) dX3_of_15 h1 (by decide) rfl ?_
        refine r_icmp_geN 48 dX3_of_16 (by decide) (by omega) (by omega) (fun h16 => ?_) (fun h16 => ?_)
        · exact absurd h16 (by omega)
        · refine r_pc 19 rfl ?_
          refine r_iload dX3_of_19 rfl ?_
          refine r_aload_n dX3_of_21 rfl ?_
          refine r_alen (v := nI 8) dX3_of_22 h2 (by decide) rfl ?_
          refine r_icmp_geN 48 dX3_of_23 (by decide) (by omega) (by omega) (fun h23 => ?_) (fun h23 => ?_)
          · exact absurd h23 (by omega)
          · refine r_pc 26 rfl ?_
            refine r_lload_n dX3_of_26 rfl ?_
            refine r_iload dX3_of_27 rfl ?_
            refine r_aload_n dX3_of_29 rfl ?_
            refine r_iload dX3_of_30 rfl ?_
            refine r_iald dX3_of_32 h1 rfl hi8 (by decide) ?_
            refine r_pc 33 rfl ?_
            refine r_aload_n dX3_of_33 rfl ?_
            refine r_iload dX3_of_34 rfl ?_
            refine r_iald dX3_of_36 h2 rfl hi8 (by decide) ?_
            refine r_cS dX3_of_37 (s_bits _ _ _ _) lX3_11 rfl rfl (by decide) ⟨Nat.le_refl _, Nat.le_refl _⟩ (Nat.le_of_ble_eq_true rfl) ?_
            refine r_lor dX3_of_40 ?_
            refine r_pc 41 rfl ?_
            refine r_lstore_n (ls' := [_, _, _, _, _]) dX3_of_41 (by decide) rfl ?_
            refine r_inc1 (ls' := [_, _, _, _, _]) dX3_of_42 (by decide) rfl rfl ?_
            refine r_goto 5 dX3_of_45 (by decide) ?_
            refine r_pc 5 rfl ?_
            exact ih (i + 1) (by omega)
  refine r_lconst (v := 0) dX3_of_0 (by decide) ?_
  refine r_lstore_n (ls' := [_, _, _, _, _]) dX3_of_1 (by decide) rfl ?_
  refine r_iconst (v := (nI 0)) dX3_of_2 (by decide) ?_
  refine r_istore (ls' := [_, _, _, _, _]) dX3_of_3 (by decide) rfl ?_
  refine r_pc 5 rfl ?_
  exact L 8 0 (by omega)
def HC (i : Nat) : Nat := [1, 2, 7, 11, 14, 13, 8, 4].getD i 0
def HF (i : Nat) : Nat := [0, 0, 3, 3, 2, 2, 1, 1].getD i 0
theorem HC_I : ∀ i, i < 8 → ([1, 2, 7, 11, 14, 13, 8, 4] : List Int32).getD i 0 = nI (HC i) := by decide +kernel
theorem HF_I : ∀ i, i < 8 → ([0, 0, 3, 3, 2, 2, 1, 1] : List Int32).getD i 0 = nI (HF i) := by decide +kernel
theorem HC_lt : ∀ i, i < 8 → HC i < 16 := by decide +kernel
theorem HF_lt : ∀ i, i < 8 → HF i < 4 := by decide +kernel
theorem HC_inj : ∀ i, i < 8 → ∀ j, j < 8 → HC i = HC j → i = j := by decide +kernel
/-- HOME, packed by the class -/
def homeP : Int64 := pkI (fun j => nI (HC j)) (fun j => nI (HF j)) 8
theorem s_ofC (w : WD) : Sem mX3_of 2 0 0 [.ref 1000, .ref 1001] w (some (.long homeP)) w := by
  refine sem_of (by decide) (Nat.le_of_ble_eq_true rfl) rfl ?_
  have L : ∀ (m i : Nat), i + m = 8 → Rn mX3_of 2 0 0 w (some (.long homeP)) w 0 0 5 [some (.ref 1000), some (.ref 1001), some (.long (pkI (fun j => nI (HC j)) (fun j => nI (HF j)) i)), none, some (.int (nI i))] [] w := by
    intro m
    induction m with
    | zero =>
      intro i hi
      have : i = 8 := by omega
      subst this
      refine r_iload dX3_of_5 rfl ?_
      refine r_bipush (v := (nI 8)) dX3_of_7 (by decide) ?_
      refine r_icmp_geN 48 dX3_of_9 (by decide) (by omega) (by omega) (fun h9 => ?_) (fun h9 => ?_)
      · refine r_pc 48 rfl ?_
        refine r_lload_n dX3_of_48 rfl ?_
        exact r_lret dX3_of_49 rfl rfl rfl
      · exact absurd h9 (by omega)
    | succ m ih =>
      intro i hi
      have hi8 : i < 8 := by omega
      refine r_iload dX3_of_5 rfl ?_
      refine r_bipush (v := (nI 8)) dX3_of_7 (by decide) ?_
      refine r_icmp_geN 48 dX3_of_9 (by decide) (by omega) (by omega) (fun h9 => ?_) (fun h9 => ?_)
      · exact absurd h9 (by omega)
      · refine r_pc 12 rfl ?_
        refine r_iload dX3_of_12 rfl ?_
        refine r_aload_n dX3_of_14 rfl ?_
        refine r_clen (v := nI 8) 0 rfl dX3_of_15 (by decide) ?_
        refine r_icmp_geN 48 dX3_of_16 (by decide) (by omega) (by omega) (fun h16 => ?_) (fun h16 => ?_)
        · exact absurd h16 (by omega)
        · refine r_pc 19 rfl ?_
          refine r_iload dX3_of_19 rfl ?_
          refine r_aload_n dX3_of_21 rfl ?_
          refine r_clen (v := nI 8) 1 rfl dX3_of_22 (by decide) ?_
          refine r_icmp_geN 48 dX3_of_23 (by decide) (by omega) (by omega) (fun h23 => ?_) (fun h23 => ?_)
          · exact absurd h23 (by omega)
          · refine r_pc 26 rfl ?_
            refine r_lload_n dX3_of_26 rfl ?_
            refine r_iload dX3_of_27 rfl ?_
            refine r_aload_n dX3_of_29 rfl ?_
            refine r_iload dX3_of_30 rfl ?_
            refine r_cald (v := nI (HC i)) 0 rfl (Or.inl ⟨dX3_of_32, rfl⟩) rfl hi8 (by decide) (HC_I i hi8) ?_
            refine r_pc 33 rfl ?_
            refine r_aload_n dX3_of_33 rfl ?_
            refine r_iload dX3_of_34 rfl ?_
            refine r_cald (v := nI (HF i)) 1 rfl (Or.inl ⟨dX3_of_36, rfl⟩) rfl hi8 (by decide) (HF_I i hi8) ?_
            refine r_cS dX3_of_37 (s_bits _ _ _ _) lX3_11 rfl rfl (by decide) ⟨Nat.le_refl _, Nat.le_refl _⟩ (Nat.le_of_ble_eq_true rfl) ?_
            refine r_lor dX3_of_40 ?_
            refine r_pc 41 rfl ?_
            refine r_lstore_n (ls' := [_, _, _, _, _]) dX3_of_41 (by decide) rfl ?_
            refine r_inc1 (ls' := [_, _, _, _, _]) dX3_of_42 (by decide) rfl rfl ?_
            refine r_goto 5 dX3_of_45 (by decide) ?_
            refine r_pc 5 rfl ?_
            exact ih (i + 1) (by omega)
  refine r_lconst (v := 0) dX3_of_0 (by decide) ?_
  refine r_lstore_n (ls' := [_, _, _, _, _]) dX3_of_1 (by decide) rfl ?_
  refine r_iconst (v := (nI 0)) dX3_of_2 (by decide) ?_
  refine r_istore (ls' := [_, _, _, _, _]) dX3_of_3 (by decide) rfl ?_
  refine r_pc 5 rfl ?_
  exact L 8 0 (by omega)
theorem s_atFirst (w : WD) : Sem mX3_atFirst 3 0 0 [] w (some (.long homeP)) w := by
  refine sem_of (by decide) (Nat.le_of_ble_eq_true rfl) rfl ?_
  refine r_gets (a := 0) dX3_atFirst_0 rfl sX3_15 ?_
  refine r_gets (a := 1) dX3_atFirst_3 rfl sX3_19 ?_
  refine r_cS dX3_atFirst_6 (s_ofC _) lX3_22 rfl rfl (by decide) ⟨Nat.le_refl _, Nat.le_refl _⟩ (Nat.le_of_ble_eq_true rfl) ?_
  exact r_lret dX3_atFirst_9 rfl rfl rfl
section F4
variable {x0 x1 x2 x3 : AE} {fc ff fs ft fu fw : Nat → Int32} {fy fd : Int32} {po : List AE}
variable {R : List AE} {c f : Nat → Nat}
theorem s_packed : Sem mX2_packed 3 0 0 [.ref 4] (cF x0 x1 x2 x3 fc ff fs ft fu fw fy fd po, R) (some (.long (pkI fc ff 8))) (cF x0 x1 x2 x3 fc ff fs ft fu fw fy fd po, R) := by
  refine sem_of (by decide) (Nat.le_of_ble_eq_true rfl) rfl ?_
  refine r_aload_n dX2_packed_0 rfl ?_
  refine r_get dX2_packed_1 fX2_9 rfl rfl ?_
  refine r_aload_n dX2_packed_4 rfl ?_
  refine r_get dX2_packed_5 fX2_15 rfl rfl ?_
  refine r_cS dX2_packed_8 (s_of _ 5 6 fc ff rfl rfl) lX2_46 rfl rfl (by decide) ⟨Nat.le_refl _, Nat.le_refl _⟩ (Nat.le_of_ble_eq_true rfl) ?_
  refine r_pc 11 rfl ?_
  exact r_lret dX2_packed_11 rfl rfl rfl
theorem s_planned : Sem mX2_planned 3 0 0 [.ref 4] (cF x0 x1 x2 x3 fc ff fs ft fu fw fy fd po, R) (some (.long (pkI ft fu 8))) (cF x0 x1 x2 x3 fc ff fs ft fu fw fy fd po, R) := by
  refine sem_of (by decide) (Nat.le_of_ble_eq_true rfl) rfl ?_
  refine r_aload_n dX2_planned_0 rfl ?_
  refine r_get dX2_planned_1 fX2_21 rfl rfl ?_
  refine r_aload_n dX2_planned_4 rfl ?_
  refine r_get dX2_planned_5 fX2_24 rfl rfl ?_
  refine r_cS dX2_planned_8 (s_of _ 8 9 ft fu rfl rfl) lX2_46 rfl rfl (by decide) ⟨Nat.le_refl _, Nat.le_refl _⟩ (Nat.le_of_ble_eq_true rfl) ?_
  refine r_pc 11 rfl ?_
  exact r_lret dX2_planned_11 rfl rfl rfl
def ringB (c : Nat → Nat) : Nat → Bool
  | 0 => true
  | n + 1 => ringB c n && (who c 8 (HC n)).isSome
theorem ringB_ge {c : Nat → Nat} {i : Nat} (h : (who c 8 (HC i)).isSome = false) : ∀ m, ringB c (i + 1 + m) = false
  | 0 => by simp [ringB, h]
  | m + 1 => by
    have := ringB_ge h m
    show (ringB c (i + 1 + m) && _) = false
    rw [this]
    rfl
theorem s_isRing (hs : Sd fs c) : Sem mX2_isRing 1 0 0 [.ref 4] (cF x0 x1 x2 x3 fc ff fs ft fu fw fy fd po, R) (some (.int (bI (ringB c 8)))) (cF x0 x1 x2 x3 fc ff fs ft fu fw fy fd po, R) := by
  refine sem_of (by decide) (Nat.le_of_ble_eq_true rfl) rfl ?_
  have L : ∀ (m i : Nat), i + m = 8 → ringB c i = true → Rn mX2_isRing 1 0 0 (cF x0 x1 x2 x3 fc ff fs ft fu fw fy fd po, R) (some (.int (bI (ringB c 8)))) (cF x0 x1 x2 x3 fc ff fs ft fu fw fy fd po, R) 0 0 2 [some (.ref 4), some (.int (nI i))] [] (cF x0 x1 x2 x3 fc ff fs ft fu fw fy fd po, R) := by
    intro m
    induction m with
    | zero =>
      intro i hi hr
      have : i = 8 := by omega
      subst this
      refine r_iload_n dX2_isRing_2 rfl ?_
      refine r_bipush (v := (nI 8)) dX2_isRing_3 (by decide) ?_
      refine r_icmp_geN 30 dX2_isRing_5 (by decide) (by omega) (by omega) (fun h5 => ?_) (fun h5 => ?_)
      · refine r_pc 30 rfl ?_
        refine r_iconst (v := (nI 1)) dX2_isRing_30 (by decide) ?_
        exact r_zret dX2_isRing_31 rfl rfl (by rw [hr]; rfl) rfl
      · exact absurd h5 (by omega)
    | succ m ih =>
      intro i hi hr
      have hi8 : i < 8 := by omega
      refine r_iload_n dX2_isRing_2 rfl ?_
      refine r_bipush (v := (nI 8)) dX2_isRing_3 (by decide) ?_
      refine r_icmp_geN 30 dX2_isRing_5 (by decide) (by omega) (by omega) (fun h5 => ?_) (fun h5 => ?_)
      · exact absurd h5 (by omega)
      · refine r_pc 8 rfl ?_
        refine r_aload_n dX2_isRing_8 rfl ?_
        refine r_get dX2_isRing_9 fX2_18 rfl rfl ?_
        refine r_gets (a := 0) dX2_isRing_12 rfl sX2_75 ?_
        refine r_iload_n dX2_isRing_15 rfl ?_
        refine r_cald (v := nI (HC i)) 0 rfl (Or.inl ⟨dX2_isRing_16, rfl⟩) rfl hi8 (by decide) (HC_I i hi8) ?_
        refine r_pc 17 rfl ?_
        refine r_iald dX2_isRing_17 rfl rfl (HC_lt i hi8) (by decide) ?_
        refine r_topi _ (hs _ (HC_lt i hi8)) ?_
        refine r_iconst (v := (-1)) dX2_isRing_18 (by decide) ?_
        refine r_icmp_ne 24 dX2_isRing_19 (by decide) (fun h19 => ?_) (fun h19 => ?_)
        · have hn : (who c 8 (HC i)).isSome = true := by cases hw : who c 8 (HC i) with | none => rw [hw] at h19; exact absurd rfl h19 | some x => rfl
          refine r_pc 24 rfl ?_
          refine r_inc1 (ls' := [_, _]) dX2_isRing_24 (by decide) rfl rfl ?_
          refine r_goto 2 dX2_isRing_27 (by decide) ?_
          refine r_pc 2 rfl ?_
          exact ih (i + 1) (by omega) (by show (ringB c i && _) = true; rw [hr, hn]; rfl)
        · have hn : who c 8 (HC i) = none := (stI_eq (fun x hx => by have := who_lt hx; omega)).mp h19
          have hf := ringB_ge (c := c) (i := i) (by rw [hn]; rfl) m
          rw [show i + 1 + m = 8 by omega] at hf
          refine r_pc 22 rfl ?_
          refine r_iconst (v := (nI 0)) dX2_isRing_22 (by decide) ?_
          exact r_zret dX2_isRing_23 rfl rfl (by rw [hf]; rfl) rfl
  refine r_iconst (v := (nI 0)) dX2_isRing_0 (by decide) ?_
  refine r_istore_n (ls' := [_, _]) dX2_isRing_1 (by decide) rfl ?_
  refine r_pc 2 rfl ?_
  exact L 8 0 (by omega) rfl
def eT (c f : Nat → Nat) (p : Nat → Bool) (g d : Nat) : Option Nat := match p d with
  | false => some (c d)
  | true => match g with
    | 0 => nb (c d) (f d)
    | 1 => nb (c d) ((f d + 2) % 4)
    | _ => some (c d)
def eU (f : Nat → Nat) (p : Nat → Bool) (g d : Nat) : Nat := match p d with
  | false => f d
  | true => match g with
    | 0 => f d
    | 1 => f d
    | 2 => (f d + 3) % 4
    | 3 => (f d + 1) % 4
    | _ => (f d + 2) % 4
def cnt (p : Nat → Bool) : Nat → Nat
  | 0 => 0
  | n + 1 => match p n with
    | true => cnt p n + 1
    | false => cnt p n
theorem isIn_mb (p : Nat → Bool) {d : Nat} (hd : d < 8) : (if nI d = -1 then nI 0 else if mbI p 8 >>> (nI d &&& 31) &&& nI 1 = nI 1 then nI 1 else nI 0) = bI (p d) := by
  rw [if_neg (nI_m1 (by omega))]
  cases h : p d with
  | true => rw [if_pos ((mb_bit p hd).mpr h)]; rfl
  | false => rw [if_neg (fun q => by rw [(mb_bit p hd).mp q] at h; cases h)]; rfl
theorem s_isInB (w : WD) (p : Nat → Bool) {d : Nat} (hd : d < 8) : Sem mX2_isIn 1 0 0 [.int (nI d), .int (mbI p 8)] w (some (.int (bI (p d)))) w := by
  have := s_isIn w (nI d) (mbI p 8)
  rw [isIn_mb p hd] at this
  exact this
theorem s_nb (w : WD) {c f : Nat} (hc : c < 16) (hf : f < 8) : Sem mX2_neighbour 1 0 0 [.int (nI c), .int (nI f)] w (some (.int (stI (nb c (f % 4))))) w := by
  rw [← nbI_nb0 c hc _ (Nat.mod_lt f (by decide))]
  exact s_neighbour w c f hc hf
theorem s_planEach {p : Nat → Bool} {g : Nat} (hg : g < 5) (hS : Sq fc ff c f) (hft : ∀ j, j < 8 → ft j = nI (c j)) (hfu : ∀ j, j < 8 → fu j = nI (f j)) (hfd : fd = nI 0) : Sem mX2_planEach 3 0 0 [.ref 4, .int (mbI p 8), .int (nI g)] (cF x0 x1 x2 x3 fc ff fs ft fu fw fy fd po, R) none (cF x0 x1 x2 x3 fc ff fs (fun j => stI (eT c f p g j)) (fun j => nI (eU f p g j)) fw fy (nI (cnt p 8)) po, R) := by
  refine sem_of (by decide) (Nat.le_of_ble_eq_true rfl) rfl ?_
  generalize hw0 : (cF x0 x1 x2 x3 fc ff fs ft fu fw fy fd po, R) = w0
  have L : ∀ (m i : Nat) (ft fu : Nat → Int32), i + m = 8 → (∀ j, j < i → ft j = stI (eT c f p g j)) → (∀ j, j < i → fu j = nI (eU f p g j)) → (∀ j, i ≤ j → j < 8 → ft j = nI (c j)) → (∀ j, i ≤ j → j < 8 → fu j = nI (f j)) → Rn mX2_planEach 3 0 0 w0 none (cF x0 x1 x2 x3 fc ff fs (fun j => stI (eT c f p g j)) (fun j => nI (eU f p g j)) fw fy (nI (cnt p 8)) po, R) 0 0 2 [some (.ref 4), some (.int (mbI p 8)), some (.int (nI g)), some (.int (nI i))] [] (cF x0 x1 x2 x3 fc ff fs ft fu fw fy (nI (cnt p i)) po, R) := by
    intro m
    induction m with
    | zero =>
      intro i ft fu hi h1 h2 h3 h4
      have : i = 8 := by omega
      subst this
      refine r_weq _ (weq_F (fun _ _ => rfl) (fun _ _ => rfl) (fun _ _ => rfl) h1 h2 (fun _ _ => rfl)) ?_
      refine r_iload_n dX2_planEach_2 rfl ?_
      refine r_bipush (v := (nI 8)) dX2_planEach_3 (by decide) ?_
      refine r_icmp_geN 140 dX2_planEach_5 (by decide) (by omega) (by omega) (fun h5 => ?_) (fun h5 => ?_)
      · refine r_pc 140 rfl ?_
        exact r_vret dX2_planEach_140 rfl rfl rfl
      · exact absurd h5 (by omega)
    | succ m ih =>
      intro i ft fu hi h1 h2 h3 h4
      have hi8 : i < 8 := by omega
      obtain ⟨e1, b1, e2, b2⟩ := hS i hi8
      have ih := fun (ft' fu' : Nat → Int32) (a1 : ft' i = stI (eT c f p g i)) (a2 : fu' i = nI (eU f p g i)) (a3 : ∀ j, j ≠ i → ft' j = ft j) (a4 : ∀ j, j ≠ i → fu' j = fu j) => ih (i + 1) ft' fu' (by omega) (fun j hj => by by_cases e : j = i; (subst e; exact a1); (rw [a3 j e]; exact h1 j (by omega))) (fun j hj => by by_cases e : j = i; (subst e; exact a2); (rw [a4 j e]; exact h2 j (by omega))) (fun j hj hj8 => by rw [a3 j (by omega)]; exact h3 j (by omega) hj8) (fun j hj hj8 => by rw [a4 j (by omega)]; exact h4 j (by omega) hj8)
      have f1 := h3 i (Nat.le_refl _) hi8
      have f2 := h4 i (Nat.le_refl _) hi8
      unfold cnt at ih
      unfold eT eU at ih
      cases hm : p i with
      | false =>
        rw [hm] at ih
        refine r_iload_n dX2_planEach_2 rfl ?_
        refine r_bipush (v := (nI 8)) dX2_planEach_3 (by decide) ?_
        refine r_icmp_geN 140 dX2_planEach_5 (by decide) (by omega) (by omega) (fun h5 => ?_) (fun h5 => ?_)
        · exact absurd h5 (by omega)
        · refine r_pc 8 rfl ?_
          refine r_iload_n dX2_planEach_8 rfl ?_
          refine r_iload_n dX2_planEach_9 rfl ?_
          refine r_cS dX2_planEach_10 (s_isInB _ p hi8) lX2_81 rfl rfl (by decide) ⟨Nat.le_refl _, Nat.le_refl _⟩ (Nat.le_of_ble_eq_true rfl) ?_
          rw [hm]
          refine r_if_ne 19 dX2_planEach_13 (by decide) (fun h13 => ?_) (fun h13 => ?_)
          · exact absurd rfl h13
          · refine r_pc 16 rfl ?_
            refine r_goto 134 dX2_planEach_16 (by decide) ?_
            refine r_inc1 (ls' := [_, _, _, _]) dX2_planEach_134 (by decide) rfl rfl ?_
            refine r_goto 2 dX2_planEach_137 (by decide) ?_
            refine r_pc 2 rfl ?_
            exact ih _ _ f1 f2 (fun _ _ => rfl) (fun _ _ => rfl)
      | true =>
        rw [hm] at ih
        match g, hg with
        | 0, _ =>
          refine r_iload_n dX2_planEach_2 rfl ?_
          refine r_bipush (v := (nI 8)) dX2_planEach_3 (by decide) ?_
          refine r_icmp_geN 140 dX2_planEach_5 (by decide) (by omega) (by omega) (fun h5 => ?_) (fun h5 => ?_)
          · exact absurd h5 (by omega)
          · refine r_pc 8 rfl ?_
            refine r_iload_n dX2_planEach_8 rfl ?_
            refine r_iload_n dX2_planEach_9 rfl ?_
            refine r_cS dX2_planEach_10 (s_isInB _ p hi8) lX2_81 rfl rfl (by decide) ⟨Nat.le_refl _, Nat.le_refl _⟩ (Nat.le_of_ble_eq_true rfl) ?_
            rw [hm]
            refine r_if_ne 19 dX2_planEach_13 (by decide) (fun h13 => ?_) (fun h13 => ?_)
            · refine r_pc 19 rfl ?_
              refine r_aload_n dX2_planEach_19 rfl ?_
              refine r_dup dX2_planEach_20 rfl ?_
              refine r_get dX2_planEach_21 fX2_34 rfl rfl ?_
              refine r_iconst (v := (nI 1)) dX2_planEach_24 (by decide) ?_
              refine r_iaddN dX2_planEach_25 ?_
              refine r_pc 26 rfl ?_
              refine r_put (w2 := (cF _ _ _ _ _ _ _ _ _ _ _ _ _, _)) dX2_planEach_26 fX2_34 rfl rfl (Nat.le_of_ble_eq_true rfl) (fun _ => rfl) (fun _ => rfl) rfl ?_
              refine r_iload_n dX2_planEach_29 rfl ?_
              refine r_tabIn 60 dX2_planEach_30 (by decide) (by decide) rfl (by decide) ?_
              refine r_aload_n dX2_planEach_60 rfl ?_
              refine r_get dX2_planEach_61 fX2_21 rfl rfl ?_
              refine r_pc 64 rfl ?_
              refine r_iload_n dX2_planEach_64 rfl ?_
              refine r_aload_n dX2_planEach_65 rfl ?_
              refine r_get dX2_planEach_66 fX2_9 rfl rfl ?_
              refine r_iload_n dX2_planEach_69 rfl ?_
              refine r_iald dX2_planEach_70 rfl rfl hi8 (by decide) ?_
              refine r_pc 71 rfl ?_
              refine r_topi _ e1 ?_
              refine r_aload_n dX2_planEach_71 rfl ?_
              refine r_get dX2_planEach_72 fX2_15 rfl rfl ?_
              refine r_iload_n dX2_planEach_75 rfl ?_
              refine r_iald dX2_planEach_76 rfl rfl hi8 (by decide) ?_
              refine r_topi _ e2 ?_
              refine r_cS dX2_planEach_77 (s_nb _ b1 (by omega)) lX2_85 rfl rfl (by decide) ⟨Nat.le_refl _, Nat.le_refl _⟩ (Nat.le_of_ble_eq_true rfl) ?_
              refine r_pc 80 rfl ?_
              refine r_iast (w2 := (cF _ _ _ _ _ _ _ _ _ _ _ _ _, _)) dX2_planEach_80 rfl rfl hi8 (by decide) rfl ?_
              refine r_goto 134 dX2_planEach_81 (by decide) ?_
              refine r_inc1 (ls' := [_, _, _, _]) dX2_planEach_134 (by decide) rfl rfl ?_
              refine r_goto 2 dX2_planEach_137 (by decide) ?_
              refine r_pc 2 rfl ?_
              exact ih _ _ (by rw [pk_us, Nat.mod_eq_of_lt b2]; rfl) f2 (fun j hj => pk_un hj) (fun _ _ => rfl)
            · exact absurd h13 (by decide)
        | 1, _ =>
          refine r_iload_n dX2_planEach_2 rfl ?_
          refine r_bipush (v := (nI 8)) dX2_planEach_3 (by decide) ?_
          refine r_icmp_geN 140 dX2_planEach_5 (by decide) (by omega) (by omega) (fun h5 => ?_) (fun h5 => ?_)
          · exact absurd h5 (by omega)
          · refine r_pc 8 rfl ?_
            refine r_iload_n dX2_planEach_8 rfl ?_
            refine r_iload_n dX2_planEach_9 rfl ?_
            refine r_cS dX2_planEach_10 (s_isInB _ p hi8) lX2_81 rfl rfl (by decide) ⟨Nat.le_refl _, Nat.le_refl _⟩ (Nat.le_of_ble_eq_true rfl) ?_
            rw [hm]
            refine r_if_ne 19 dX2_planEach_13 (by decide) (fun h13 => ?_) (fun h13 => ?_)
            · refine r_pc 19 rfl ?_
              refine r_aload_n dX2_planEach_19 rfl ?_
              refine r_dup dX2_planEach_20 rfl ?_
              refine r_get dX2_planEach_21 fX2_34 rfl rfl ?_
              refine r_iconst (v := (nI 1)) dX2_planEach_24 (by decide) ?_
              refine r_iaddN dX2_planEach_25 ?_
              refine r_pc 26 rfl ?_
              refine r_put (w2 := (cF _ _ _ _ _ _ _ _ _ _ _ _ _, _)) dX2_planEach_26 fX2_34 rfl rfl (Nat.le_of_ble_eq_true rfl) (fun _ => rfl) (fun _ => rfl) rfl ?_
              refine r_iload_n dX2_planEach_29 rfl ?_
              refine r_tabIn 84 dX2_planEach_30 (by decide) (by decide) rfl (by decide) ?_
              refine r_aload_n dX2_planEach_84 rfl ?_
              refine r_get dX2_planEach_85 fX2_21 rfl rfl ?_
              refine r_pc 88 rfl ?_
              refine r_iload_n dX2_planEach_88 rfl ?_
              refine r_aload_n dX2_planEach_89 rfl ?_
              refine r_get dX2_planEach_90 fX2_9 rfl rfl ?_
              refine r_iload_n dX2_planEach_93 rfl ?_
              refine r_iald dX2_planEach_94 rfl rfl hi8 (by decide) ?_
              refine r_pc 95 rfl ?_
              refine r_topi _ e1 ?_
              refine r_aload_n dX2_planEach_95 rfl ?_
              refine r_get dX2_planEach_96 fX2_15 rfl rfl ?_
              refine r_iload_n dX2_planEach_99 rfl ?_
              refine r_iald dX2_planEach_100 rfl rfl hi8 (by decide) ?_
              refine r_topi _ e2 ?_
              refine r_iconst (v := (nI 2)) dX2_planEach_101 (by decide) ?_
              refine r_pc 102 rfl ?_
              refine r_iaddN dX2_planEach_102 ?_
              refine r_cS dX2_planEach_103 (s_nb _ b1 (by omega)) lX2_85 rfl rfl (by decide) ⟨Nat.le_refl _, Nat.le_refl _⟩ (Nat.le_of_ble_eq_true rfl) ?_
              refine r_iast (w2 := (cF _ _ _ _ _ _ _ _ _ _ _ _ _, _)) dX2_planEach_106 rfl rfl hi8 (by decide) rfl ?_
              refine r_goto 134 dX2_planEach_107 (by decide) ?_
              refine r_inc1 (ls' := [_, _, _, _]) dX2_planEach_134 (by decide) rfl rfl ?_
              refine r_pc 137 rfl ?_
              refine r_goto 2 dX2_planEach_137 (by decide) ?_
              refine r_pc 2 rfl ?_
              exact ih _ _ pk_us f2 (fun j hj => pk_un hj) (fun _ _ => rfl)
            · exact absurd h13 (by decide)
        | 2, _ =>
          refine r_iload_n dX2_planEach_2 rfl ?_
          refine r_bipush (v := (nI 8)) dX2_planEach_3 (by decide) ?_
          refine r_icmp_geN 140 dX2_planEach_5 (by decide) (by omega) (by omega) (fun h5 => ?_) (fun h5 => ?_)
          · exact absurd h5 (by omega)
          · refine r_pc 8 rfl ?_
            refine r_iload_n dX2_planEach_8 rfl ?_
            refine r_iload_n dX2_planEach_9 rfl ?_
            refine r_cS dX2_planEach_10 (s_isInB _ p hi8) lX2_81 rfl rfl (by decide) ⟨Nat.le_refl _, Nat.le_refl _⟩ (Nat.le_of_ble_eq_true rfl) ?_
            rw [hm]
            refine r_if_ne 19 dX2_planEach_13 (by decide) (fun h13 => ?_) (fun h13 => ?_)
            · refine r_pc 19 rfl ?_
              refine r_aload_n dX2_planEach_19 rfl ?_
              refine r_dup dX2_planEach_20 rfl ?_
              refine r_get dX2_planEach_21 fX2_34 rfl rfl ?_
              refine r_iconst (v := (nI 1)) dX2_planEach_24 (by decide) ?_
              refine r_iaddN dX2_planEach_25 ?_
              refine r_pc 26 rfl ?_
              refine r_put (w2 := (cF _ _ _ _ _ _ _ _ _ _ _ _ _, _)) dX2_planEach_26 fX2_34 rfl rfl (Nat.le_of_ble_eq_true rfl) (fun _ => rfl) (fun _ => rfl) rfl ?_
              refine r_iload_n dX2_planEach_29 rfl ?_
              refine r_tabIn 110 dX2_planEach_30 (by decide) (by decide) rfl (by decide) ?_
              refine r_aload_n dX2_planEach_110 rfl ?_
              refine r_iload_n dX2_planEach_111 rfl ?_
              refine r_pc 112 rfl ?_
              refine r_iconst (v := (nI 3)) dX2_planEach_112 (by decide) ?_
              refine r_cVv dX2_planEach_113 (s_turn hi8 (by decide) hS) lX2_89 rfl rfl rfl (by decide) ⟨Nat.le_refl _, Nat.le_refl _⟩ (Nat.le_of_ble_eq_true rfl) ?_
              refine r_goto 134 dX2_planEach_116 (by decide) ?_
              refine r_inc1 (ls' := [_, _, _, _]) dX2_planEach_134 (by decide) rfl rfl ?_
              refine r_goto 2 dX2_planEach_137 (by decide) ?_
              refine r_pc 2 rfl ?_
              exact ih _ _ f1 pk_us (fun _ _ => rfl) (fun j hj => pk_un hj)
            · exact absurd h13 (by decide)
        | 3, _ =>
          refine r_iload_n dX2_planEach_2 rfl ?_
          refine r_bipush (v := (nI 8)) dX2_planEach_3 (by decide) ?_
          refine r_icmp_geN 140 dX2_planEach_5 (by decide) (by omega) (by omega) (fun h5 => ?_) (fun h5 => ?_)
          · exact absurd h5 (by omega)
          · refine r_pc 8 rfl ?_
            refine r_iload_n dX2_planEach_8 rfl ?_
            refine r_iload_n dX2_planEach_9 rfl ?_
            refine r_cS dX2_planEach_10 (s_isInB _ p hi8) lX2_81 rfl rfl (by decide) ⟨Nat.le_refl _, Nat.le_refl _⟩ (Nat.le_of_ble_eq_true rfl) ?_
            rw [hm]
            refine r_if_ne 19 dX2_planEach_13 (by decide) (fun h13 => ?_) (fun h13 => ?_)
            · refine r_pc 19 rfl ?_
              refine r_aload_n dX2_planEach_19 rfl ?_
              refine r_dup dX2_planEach_20 rfl ?_
              refine r_get dX2_planEach_21 fX2_34 rfl rfl ?_
              refine r_iconst (v := (nI 1)) dX2_planEach_24 (by decide) ?_
              refine r_iaddN dX2_planEach_25 ?_
              refine r_pc 26 rfl ?_
              refine r_put (w2 := (cF _ _ _ _ _ _ _ _ _ _ _ _ _, _)) dX2_planEach_26 fX2_34 rfl rfl (Nat.le_of_ble_eq_true rfl) (fun _ => rfl) (fun _ => rfl) rfl ?_
              refine r_iload_n dX2_planEach_29 rfl ?_
              refine r_tabIn 119 dX2_planEach_30 (by decide) (by decide) rfl (by decide) ?_
              refine r_aload_n dX2_planEach_119 rfl ?_
              refine r_iload_n dX2_planEach_120 rfl ?_
              refine r_pc 121 rfl ?_
              refine r_iconst (v := (nI 1)) dX2_planEach_121 (by decide) ?_
              refine r_cVv dX2_planEach_122 (s_turn hi8 (by decide) hS) lX2_89 rfl rfl rfl (by decide) ⟨Nat.le_refl _, Nat.le_refl _⟩ (Nat.le_of_ble_eq_true rfl) ?_
              refine r_goto 134 dX2_planEach_125 (by decide) ?_
              refine r_inc1 (ls' := [_, _, _, _]) dX2_planEach_134 (by decide) rfl rfl ?_
              refine r_goto 2 dX2_planEach_137 (by decide) ?_
              refine r_pc 2 rfl ?_
              exact ih _ _ f1 pk_us (fun _ _ => rfl) (fun j hj => pk_un hj)
            · exact absurd h13 (by decide)
        | 4, _ =>
          refine r_iload_n dX2_planEach_2 rfl ?_
          refine r_bipush (v := (nI 8)) dX2_planEach_3 (by decide) ?_
          refine r_icmp_geN 140 dX2_planEach_5 (by decide) (by omega) (by omega) (fun h5 => ?_) (fun h5 => ?_)
          · exact absurd h5 (by omega)
          · refine r_pc 8 rfl ?_
            refine r_iload_n dX2_planEach_8 rfl ?_
            refine r_iload_n dX2_planEach_9 rfl ?_
            refine r_cS dX2_planEach_10 (s_isInB _ p hi8) lX2_81 rfl rfl (by decide) ⟨Nat.le_refl _, Nat.le_refl _⟩ (Nat.le_of_ble_eq_true rfl) ?_
            rw [hm]
            refine r_if_ne 19 dX2_planEach_13 (by decide) (fun h13 => ?_) (fun h13 => ?_)
            · refine r_pc 19 rfl ?_
              refine r_aload_n dX2_planEach_19 rfl ?_
              refine r_dup dX2_planEach_20 rfl ?_
              refine r_get dX2_planEach_21 fX2_34 rfl rfl ?_
              refine r_iconst (v := (nI 1)) dX2_planEach_24 (by decide) ?_
              refine r_iaddN dX2_planEach_25 ?_
              refine r_pc 26 rfl ?_
              refine r_put (w2 := (cF _ _ _ _ _ _ _ _ _ _ _ _ _, _)) dX2_planEach_26 fX2_34 rfl rfl (Nat.le_of_ble_eq_true rfl) (fun _ => rfl) (fun _ => rfl) rfl ?_
              refine r_iload_n dX2_planEach_29 rfl ?_
              refine r_tabOut 128 dX2_planEach_30 (by decide) (by decide) ?_
              refine r_aload_n dX2_planEach_128 rfl ?_
              refine r_iload_n dX2_planEach_129 rfl ?_
              refine r_pc 130 rfl ?_
              refine r_iconst (v := (nI 2)) dX2_planEach_130 (by decide) ?_
              refine r_cVv dX2_planEach_131 (s_turn hi8 (by decide) hS) lX2_89 rfl rfl rfl (by decide) ⟨Nat.le_refl _, Nat.le_refl _⟩ (Nat.le_of_ble_eq_true rfl) ?_
              refine r_inc1 (ls' := [_, _, _, _]) dX2_planEach_134 (by decide) rfl rfl ?_
              refine r_goto 2 dX2_planEach_137 (by decide) ?_
              refine r_pc 2 rfl ?_
              exact ih _ _ f1 pk_us (fun _ _ => rfl) (fun j hj => pk_un hj)
            · exact absurd h13 (by decide)
  subst hw0
  subst hfd
  refine r_iconst (v := (nI 0)) dX2_planEach_0 (by decide) ?_
  refine r_istore_n (ls' := [_, _, _, _]) dX2_planEach_1 (by decide) rfl ?_
  refine r_pc 2 rfl ?_
  exact L 8 0 _ _ (by omega) (fun j h => absurd h (by omega)) (fun j h => absurd h (by omega)) (fun j _ h => hft j h) (fun j _ h => hfu j h)
end F4
end
section
/-! ===== pairs ===== -/
theorem nI_z {a : Nat} (ha : a < 2 ^ 31) (h : nI a = 0) : a = 0 := (nI_eq (a := a) (b := 0) ha (by decide)).mp h
def mate (c f : Nat → Nat) (p : Nat → Bool) (g d : Nat) : Option Nat :=
  if g = 5 ∨ g = 6 ∨ g = 7 then
    match bes c f d 0 with
    | none => none
    | some e => if p e = true ∧ f e = (f d + 2) % 4 ∧ (g = 6 → ¬ e % 2 = d % 2) then some e else none
  else
    match bes c f d 1 with
    | none => match bes c f d 3 with
      | none => none
      | some e => if p e = true ∧ f e = f d then some e else none
    | some e => if p e = true ∧ f e = f d then some e else match bes c f d 3 with
      | none => none
      | some e => if p e = true ∧ f e = f d then some e else none
theorem s_isInO (w : WD) (p : Nat → Bool) (o : Option Nat) (ho : ∀ e, o = some e → e < 8) : Sem mX2_isIn 1 0 0 [.int (stI o), .int (mbI p 8)] w (some (.int (bI (match o with | none => false | some e => p e)))) w := by
  cases o with
  | none => exact s_isIn w (-1) (mbI p 8)
  | some e => exact s_isInB w p (ho e rfl)
section F5
variable {x0 x1 x2 x3 : AE} {fc ff fs ft fu fw : Nat → Int32} {fy fd : Int32} {po : List AE}
variable {R : List AE} {c f : Nat → Nat}
theorem s_partnerOf {p : Nat → Bool} {d g : Nat} (hd : d < 8) (hg : g < 11) (hS : Sq fc ff c f) (hs : Sd fs c) : Sem mX2_partnerOf 3 0 0 [.ref 4, .int (nI d), .int (mbI p 8), .int (nI g)] (cF x0 x1 x2 x3 fc ff fs ft fu fw fy fd po, R) (some (.int (stI (mate c f p g d)))) (cF x0 x1 x2 x3 fc ff fs ft fu fw fy fd po, R) := by
  refine sem_of (by decide) (Nat.le_of_ble_eq_true rfl) rfl ?_
  obtain ⟨e1, b1, e2, b2⟩ := hS d hd
  have A : g = 5 ∨ g = 6 ∨ g = 7 → Rn mX2_partnerOf 3 0 0 (cF x0 x1 x2 x3 fc ff fs ft fu fw fy fd po, R) (some (.int (stI (mate c f p g d)))) (cF x0 x1 x2 x3 fc ff fs ft fu fw fy fd po, R) 0 0 17 [some (.ref 4), some (.int (nI d)), some (.int (mbI p 8)), some (.int (nI g)), none, none] [] (cF x0 x1 x2 x3 fc ff fs ft fu fw fy fd po, R) := by
    intro hg3
    cases hb : bes c f d 0 with
    | none =>
      have hr : mate c f p g d = none := by simp [mate, hg3, hb]
      rw [hr]
      refine r_aload_n dX2_partnerOf_17 rfl ?_
      refine r_iload_n dX2_partnerOf_18 rfl ?_
      refine r_iconst (v := (nI 0)) dX2_partnerOf_19 (by decide) ?_
      refine r_cV dX2_partnerOf_20 (s_beside hd (by decide) hS hs) lX2_103 rfl rfl rfl (by decide) ⟨Nat.le_refl _, Nat.le_refl _⟩ (Nat.le_of_ble_eq_true rfl) ?_
      rw [hb]
      refine r_istore (ls' := [_, _, _, _, _, _]) dX2_partnerOf_23 (by decide) rfl ?_
      refine r_pc 25 rfl ?_
      refine r_iload dX2_partnerOf_25 rfl ?_
      refine r_iload_n dX2_partnerOf_27 rfl ?_
      refine r_cS dX2_partnerOf_28 (s_isInO _ p none (fun _ h => by cases h)) lX2_81 rfl rfl (by decide) ⟨Nat.le_refl _, Nat.le_refl _⟩ (Nat.le_of_ble_eq_true rfl) ?_
      refine r_if_eq 74 dX2_partnerOf_31 (by decide) (fun h31 => ?_) (fun h31 => ?_)
      · refine r_pc 74 rfl ?_
        refine r_iconst (v := (nI 0)) dX2_partnerOf_74 (by decide) ?_
        refine r_istore (ls' := [_, _, _, _, _, _]) dX2_partnerOf_75 (by decide) rfl ?_
        refine r_iload dX2_partnerOf_77 rfl ?_
        refine r_if_eq 87 dX2_partnerOf_79 (by decide) (fun h79 => ?_) (fun h79 => ?_)
        · refine r_pc 87 rfl ?_
          refine r_iconst (v := (-1)) dX2_partnerOf_87 (by decide) ?_
          exact r_iret dX2_partnerOf_88 rfl rfl rfl
        · first | exact absurd h79 (by decide) | exact absurd (by decide) h79
      · exact absurd rfl h31
    | some e =>
      have he : e < 8 := bes_lt hb
      obtain ⟨-, -, e4, b4⟩ := hS e he
      have hx : nI ((f d + 2) % 4) = nI ((f d + 2) % 4) := rfl
      cases hp : p e with
      | false =>
        have hr : mate c f p g d = none := by simp [mate, hg3, hb, hp]
        rw [hr]
        refine r_aload_n dX2_partnerOf_17 rfl ?_
        refine r_iload_n dX2_partnerOf_18 rfl ?_
        refine r_iconst (v := (nI 0)) dX2_partnerOf_19 (by decide) ?_
        refine r_cV dX2_partnerOf_20 (s_beside hd (by decide) hS hs) lX2_103 rfl rfl rfl (by decide) ⟨Nat.le_refl _, Nat.le_refl _⟩ (Nat.le_of_ble_eq_true rfl) ?_
        rw [hb]
        refine r_istore (ls' := [_, _, _, _, _, _]) dX2_partnerOf_23 (by decide) rfl ?_
        refine r_pc 25 rfl ?_
        refine r_iload dX2_partnerOf_25 rfl ?_
        refine r_iload_n dX2_partnerOf_27 rfl ?_
        refine r_cS dX2_partnerOf_28 (s_isInO _ p (some e) (fun _ h => by cases h; exact he)) lX2_81 rfl rfl (by decide) ⟨Nat.le_refl _, Nat.le_refl _⟩ (Nat.le_of_ble_eq_true rfl) ?_
        dsimp only
        rw [hp]
        refine r_if_eq 74 dX2_partnerOf_31 (by decide) (fun h31 => ?_) (fun h31 => ?_)
        · refine r_pc 74 rfl ?_
          refine r_iconst (v := (nI 0)) dX2_partnerOf_74 (by decide) ?_
          refine r_istore (ls' := [_, _, _, _, _, _]) dX2_partnerOf_75 (by decide) rfl ?_
          refine r_iload dX2_partnerOf_77 rfl ?_
          refine r_if_eq 87 dX2_partnerOf_79 (by decide) (fun h79 => ?_) (fun h79 => ?_)
          · refine r_pc 87 rfl ?_
            refine r_iconst (v := (-1)) dX2_partnerOf_87 (by decide) ?_
            exact r_iret dX2_partnerOf_88 rfl rfl rfl
          · first | exact absurd h79 (by decide) | exact absurd (by decide) h79
        · exact absurd rfl h31
      | true =>
        refine r_aload_n dX2_partnerOf_17 rfl ?_
        refine r_iload_n dX2_partnerOf_18 rfl ?_
        refine r_iconst (v := (nI 0)) dX2_partnerOf_19 (by decide) ?_
        refine r_cV dX2_partnerOf_20 (s_beside hd (by decide) hS hs) lX2_103 rfl rfl rfl (by decide) ⟨Nat.le_refl _, Nat.le_refl _⟩ (Nat.le_of_ble_eq_true rfl) ?_
        rw [hb]
        refine r_istore (ls' := [_, _, _, _, _, _]) dX2_partnerOf_23 (by decide) rfl ?_
        refine r_pc 25 rfl ?_
        refine r_iload dX2_partnerOf_25 rfl ?_
        refine r_iload_n dX2_partnerOf_27 rfl ?_
        refine r_cS dX2_partnerOf_28 (s_isInO _ p (some e) (fun _ h => by cases h; exact he)) lX2_81 rfl rfl (by decide) ⟨Nat.le_refl _, Nat.le_refl _⟩ (Nat.le_of_ble_eq_true rfl) ?_
        dsimp only
        rw [hp]
        refine r_if_eq 74 dX2_partnerOf_31 (by decide) (fun h31 => ?_) (fun h31 => ?_)
        · exact absurd h31 (by decide)
        · refine r_pc 34 rfl ?_
          refine r_aload_n dX2_partnerOf_34 rfl ?_
          refine r_get dX2_partnerOf_35 fX2_15 rfl rfl ?_
          refine r_iload dX2_partnerOf_38 rfl ?_
          refine r_iald dX2_partnerOf_40 rfl rfl he (by decide) ?_
          refine r_topi _ e4 ?_
          refine r_aload_n dX2_partnerOf_41 rfl ?_
          refine r_pc 42 rfl ?_
          refine r_get dX2_partnerOf_42 fX2_15 rfl rfl ?_
          refine r_iload_n dX2_partnerOf_45 rfl ?_
          refine r_iald dX2_partnerOf_46 rfl rfl hd (by decide) ?_
          refine r_topi _ e2 ?_
          refine r_iconst (v := (nI 2)) dX2_partnerOf_47 (by decide) ?_
          refine r_iaddN dX2_partnerOf_48 ?_
          refine r_pc 49 rfl ?_
          refine r_iconst (v := (nI 4)) dX2_partnerOf_49 (by decide) ?_
          refine r_iremN dX2_partnerOf_50 (by omega) (by decide) (by decide) ?_
          refine r_icmp_neN 74 dX2_partnerOf_51 (by decide) (by omega) (by omega) (fun h51 => ?_) (fun h51 => ?_)
          · have hr : mate c f p g d = none := by (simp only [mate, if_pos hg3, hb]; rw [if_neg (fun q => h51 q.2.1)])
            rw [hr]
            refine r_pc 74 rfl ?_
            refine r_iconst (v := (nI 0)) dX2_partnerOf_74 (by decide) ?_
            refine r_istore (ls' := [_, _, _, _, _, _]) dX2_partnerOf_75 (by decide) rfl ?_
            refine r_iload dX2_partnerOf_77 rfl ?_
            refine r_if_eq 87 dX2_partnerOf_79 (by decide) (fun h79 => ?_) (fun h79 => ?_)
            · refine r_pc 87 rfl ?_
              refine r_iconst (v := (-1)) dX2_partnerOf_87 (by decide) ?_
              exact r_iret dX2_partnerOf_88 rfl rfl rfl
            · first | exact absurd h79 (by decide) | exact absurd (by decide) h79
          · refine r_pc 54 rfl ?_
            refine r_iload_n dX2_partnerOf_54 rfl ?_
            refine r_bipush (v := (nI 6)) dX2_partnerOf_55 (by decide) ?_
            refine r_icmp_neN 70 dX2_partnerOf_57 (by decide) (by omega) (by omega) (fun h57 => ?_) (fun h57 => ?_)
            · have hr : mate c f p g d = some e := by (simp only [mate, if_pos hg3, hb]; rw [if_pos ⟨hp, h51, fun q => absurd q h57⟩])
              rw [hr]
              refine r_pc 70 rfl ?_
              refine r_iconst (v := (nI 1)) dX2_partnerOf_70 (by decide) ?_
              refine r_goto 75 dX2_partnerOf_71 (by decide) ?_
              refine r_istore (ls' := [_, _, _, _, _, _]) dX2_partnerOf_75 (by decide) rfl ?_
              refine r_iload dX2_partnerOf_77 rfl ?_
              refine r_if_eq 87 dX2_partnerOf_79 (by decide) (fun h79 => ?_) (fun h79 => ?_)
              · first | exact absurd h79 (by decide) | exact absurd (by decide) h79
              · refine r_pc 82 rfl ?_
                refine r_iload dX2_partnerOf_82 rfl ?_
                refine r_goto 88 dX2_partnerOf_84 (by decide) ?_
                exact r_iret dX2_partnerOf_88 rfl rfl rfl
            · refine r_pc 60 rfl ?_
              refine r_iload dX2_partnerOf_60 rfl ?_
              refine r_iconst (v := (nI 2)) dX2_partnerOf_62 (by decide) ?_
              refine r_iremN dX2_partnerOf_63 (by omega) (by decide) (by decide) ?_
              refine r_iload_n dX2_partnerOf_64 rfl ?_
              refine r_iconst (v := (nI 2)) dX2_partnerOf_65 (by decide) ?_
              refine r_pc 66 rfl ?_
              refine r_iremN dX2_partnerOf_66 (by omega) (by decide) (by decide) ?_
              refine r_icmp_eqN 74 dX2_partnerOf_67 (by decide) (by omega) (by omega) (fun h67 => ?_) (fun h67 => ?_)
              · have hr : mate c f p g d = none := by (simp only [mate, if_pos hg3, hb]; rw [if_neg (fun q => q.2.2 h57 h67)])
                rw [hr]
                refine r_pc 74 rfl ?_
                refine r_iconst (v := (nI 0)) dX2_partnerOf_74 (by decide) ?_
                refine r_istore (ls' := [_, _, _, _, _, _]) dX2_partnerOf_75 (by decide) rfl ?_
                refine r_iload dX2_partnerOf_77 rfl ?_
                refine r_if_eq 87 dX2_partnerOf_79 (by decide) (fun h79 => ?_) (fun h79 => ?_)
                · refine r_pc 87 rfl ?_
                  refine r_iconst (v := (-1)) dX2_partnerOf_87 (by decide) ?_
                  exact r_iret dX2_partnerOf_88 rfl rfl rfl
                · first | exact absurd h79 (by decide) | exact absurd (by decide) h79
              · have hr : mate c f p g d = some e := by (simp only [mate, if_pos hg3, hb]; rw [if_pos ⟨hp, h51, fun _ => h67⟩])
                rw [hr]
                refine r_pc 70 rfl ?_
                refine r_iconst (v := (nI 1)) dX2_partnerOf_70 (by decide) ?_
                refine r_goto 75 dX2_partnerOf_71 (by decide) ?_
                refine r_istore (ls' := [_, _, _, _, _, _]) dX2_partnerOf_75 (by decide) rfl ?_
                refine r_iload dX2_partnerOf_77 rfl ?_
                refine r_if_eq 87 dX2_partnerOf_79 (by decide) (fun h79 => ?_) (fun h79 => ?_)
                · first | exact absurd h79 (by decide) | exact absurd (by decide) h79
                · refine r_pc 82 rfl ?_
                  refine r_iload dX2_partnerOf_82 rfl ?_
                  refine r_goto 88 dX2_partnerOf_84 (by decide) ?_
                  exact r_iret dX2_partnerOf_88 rfl rfl rfl
  have B : ¬ (g = 5 ∨ g = 6 ∨ g = 7) → Rn mX2_partnerOf 3 0 0 (cF x0 x1 x2 x3 fc ff fs ft fu fw fy fd po, R) (some (.int (stI (mate c f p g d)))) (cF x0 x1 x2 x3 fc ff fs ft fu fw fy fd po, R) 0 0 89 [some (.ref 4), some (.int (nI d)), some (.int (mbI p 8)), some (.int (nI g)), none, none] [] (cF x0 x1 x2 x3 fc ff fs ft fu fw fy fd po, R) := by
    intro hg3
    have C : ∀ (x4 : Int32), Rn mX2_partnerOf 3 0 0 (cF x0 x1 x2 x3 fc ff fs ft fu fw fy fd po, R) (some (.int (stI (match bes c f d 3 with | none => none | some e => if p e = true ∧ f e = f d then some e else none)))) (cF x0 x1 x2 x3 fc ff fs ft fu fw fy fd po, R) 0 0 125 [some (.ref 4), some (.int (nI d)), some (.int (mbI p 8)), some (.int (nI g)), some (.int x4), none] [] (cF x0 x1 x2 x3 fc ff fs ft fu fw fy fd po, R) := by
      intro x4
      cases hb : bes c f d 3 with
      | none =>
        refine r_aload_n dX2_partnerOf_125 rfl ?_
        refine r_iload_n dX2_partnerOf_126 rfl ?_
        refine r_iconst (v := (nI 3)) dX2_partnerOf_127 (by decide) ?_
        refine r_cV dX2_partnerOf_128 (s_beside hd (by decide) hS hs) lX2_103 rfl rfl rfl (by decide) ⟨Nat.le_refl _, Nat.le_refl _⟩ (Nat.le_of_ble_eq_true rfl) ?_
        rw [hb]
        refine r_istore (ls' := [_, _, _, _, _, _]) dX2_partnerOf_131 (by decide) rfl ?_
        refine r_pc 133 rfl ?_
        refine r_iload dX2_partnerOf_133 rfl ?_
        refine r_iload_n dX2_partnerOf_135 rfl ?_
        refine r_cS dX2_partnerOf_136 (s_isInO _ p none (fun _ h => by cases h)) lX2_81 rfl rfl (by decide) ⟨Nat.le_refl _, Nat.le_refl _⟩ (Nat.le_of_ble_eq_true rfl) ?_
        refine r_if_eq 163 dX2_partnerOf_139 (by decide) (fun h139 => ?_) (fun h139 => ?_)
        · refine r_pc 163 rfl ?_
          refine r_iconst (v := (-1)) dX2_partnerOf_163 (by decide) ?_
          exact r_iret dX2_partnerOf_164 rfl rfl rfl
        · exact absurd rfl h139
      | some e =>
        have he : e < 8 := bes_lt hb
        obtain ⟨-, -, e4, b4⟩ := hS e he
        dsimp only
        cases hp : p e with
        | false =>
          rw [if_neg (fun q => by cases q.1)]
          refine r_aload_n dX2_partnerOf_125 rfl ?_
          refine r_iload_n dX2_partnerOf_126 rfl ?_
          refine r_iconst (v := (nI 3)) dX2_partnerOf_127 (by decide) ?_
          refine r_cV dX2_partnerOf_128 (s_beside hd (by decide) hS hs) lX2_103 rfl rfl rfl (by decide) ⟨Nat.le_refl _, Nat.le_refl _⟩ (Nat.le_of_ble_eq_true rfl) ?_
          rw [hb]
          refine r_istore (ls' := [_, _, _, _, _, _]) dX2_partnerOf_131 (by decide) rfl ?_
          refine r_pc 133 rfl ?_
          refine r_iload dX2_partnerOf_133 rfl ?_
          refine r_iload_n dX2_partnerOf_135 rfl ?_
          refine r_cS dX2_partnerOf_136 (s_isInO _ p (some e) (fun _ h => by cases h; exact he)) lX2_81 rfl rfl (by decide) ⟨Nat.le_refl _, Nat.le_refl _⟩ (Nat.le_of_ble_eq_true rfl) ?_
          dsimp only
          rw [hp]
          refine r_if_eq 163 dX2_partnerOf_139 (by decide) (fun h139 => ?_) (fun h139 => ?_)
          · refine r_pc 163 rfl ?_
            refine r_iconst (v := (-1)) dX2_partnerOf_163 (by decide) ?_
            exact r_iret dX2_partnerOf_164 rfl rfl rfl
          · exact absurd rfl h139
        | true =>
          refine r_aload_n dX2_partnerOf_125 rfl ?_
          refine r_iload_n dX2_partnerOf_126 rfl ?_
          refine r_iconst (v := (nI 3)) dX2_partnerOf_127 (by decide) ?_
          refine r_cV dX2_partnerOf_128 (s_beside hd (by decide) hS hs) lX2_103 rfl rfl rfl (by decide) ⟨Nat.le_refl _, Nat.le_refl _⟩ (Nat.le_of_ble_eq_true rfl) ?_
          rw [hb]
          refine r_istore (ls' := [_, _, _, _, _, _]) dX2_partnerOf_131 (by decide) rfl ?_
          refine r_pc 133 rfl ?_
          refine r_iload dX2_partnerOf_133 rfl ?_
          refine r_iload_n dX2_partnerOf_135 rfl ?_
          refine r_cS dX2_partnerOf_136 (s_isInO _ p (some e) (fun _ h => by cases h; exact he)) lX2_81 rfl rfl (by decide) ⟨Nat.le_refl _, Nat.le_refl _⟩ (Nat.le_of_ble_eq_true rfl) ?_
          dsimp only
          rw [hp]
          refine r_if_eq 163 dX2_partnerOf_139 (by decide) (fun h139 => ?_) (fun h139 => ?_)
          · exact absurd h139 (by decide)
          · refine r_pc 142 rfl ?_
            refine r_aload_n dX2_partnerOf_142 rfl ?_
            refine r_get dX2_partnerOf_143 fX2_15 rfl rfl ?_
            refine r_iload dX2_partnerOf_146 rfl ?_
            refine r_iald dX2_partnerOf_148 rfl rfl he (by decide) ?_
            refine r_topi _ e4 ?_
            refine r_aload_n dX2_partnerOf_149 rfl ?_
            refine r_pc 150 rfl ?_
            refine r_get dX2_partnerOf_150 fX2_15 rfl rfl ?_
            refine r_iload_n dX2_partnerOf_153 rfl ?_
            refine r_iald dX2_partnerOf_154 rfl rfl hd (by decide) ?_
            refine r_topi _ e2 ?_
            refine r_icmp_neN 163 dX2_partnerOf_155 (by decide) (by omega) (by omega) (fun h155 => ?_) (fun h155 => ?_)
            · rw [if_neg (fun q => h155 q.2)]
              refine r_pc 163 rfl ?_
              refine r_iconst (v := (-1)) dX2_partnerOf_163 (by decide) ?_
              exact r_iret dX2_partnerOf_164 rfl rfl rfl
            · rw [if_pos ⟨rfl, h155⟩]
              refine r_pc 158 rfl ?_
              refine r_iload dX2_partnerOf_158 rfl ?_
              refine r_goto 164 dX2_partnerOf_160 (by decide) ?_
              exact r_iret dX2_partnerOf_164 rfl rfl rfl
    cases hb : bes c f d 1 with
    | none =>
      have hr : mate c f p g d = (match bes c f d 3 with | none => none | some e => if p e = true ∧ f e = f d then some e else none) := by simp only [mate, if_neg hg3, hb]
      rw [hr]
      refine r_aload_n dX2_partnerOf_89 rfl ?_
      refine r_iload_n dX2_partnerOf_90 rfl ?_
      refine r_iconst (v := (nI 1)) dX2_partnerOf_91 (by decide) ?_
      refine r_cV dX2_partnerOf_92 (s_beside hd (by decide) hS hs) lX2_103 rfl rfl rfl (by decide) ⟨Nat.le_refl _, Nat.le_refl _⟩ (Nat.le_of_ble_eq_true rfl) ?_
      rw [hb]
      refine r_istore (ls' := [_, _, _, _, _, _]) dX2_partnerOf_95 (by decide) rfl ?_
      refine r_pc 97 rfl ?_
      refine r_iload dX2_partnerOf_97 rfl ?_
      refine r_iload_n dX2_partnerOf_99 rfl ?_
      refine r_cS dX2_partnerOf_100 (s_isInO _ p none (fun _ h => by cases h)) lX2_81 rfl rfl (by decide) ⟨Nat.le_refl _, Nat.le_refl _⟩ (Nat.le_of_ble_eq_true rfl) ?_
      refine r_if_eq 125 dX2_partnerOf_103 (by decide) (fun h103 => ?_) (fun h103 => ?_)
      · refine r_pc 125 rfl ?_
        refine r_pc 125 rfl ?_
        exact C _
      · exact absurd rfl h103
    | some e =>
      have he : e < 8 := bes_lt hb
      obtain ⟨-, -, e4, b4⟩ := hS e he
      by_cases hq : p e = true ∧ f e = f d
      · have hr : mate c f p g d = some e := by simp only [mate, if_neg hg3, hb, if_pos hq]
        rw [hr]
        refine r_aload_n dX2_partnerOf_89 rfl ?_
        refine r_iload_n dX2_partnerOf_90 rfl ?_
        refine r_iconst (v := (nI 1)) dX2_partnerOf_91 (by decide) ?_
        refine r_cV dX2_partnerOf_92 (s_beside hd (by decide) hS hs) lX2_103 rfl rfl rfl (by decide) ⟨Nat.le_refl _, Nat.le_refl _⟩ (Nat.le_of_ble_eq_true rfl) ?_
        rw [hb]
        refine r_istore (ls' := [_, _, _, _, _, _]) dX2_partnerOf_95 (by decide) rfl ?_
        refine r_pc 97 rfl ?_
        refine r_iload dX2_partnerOf_97 rfl ?_
        refine r_iload_n dX2_partnerOf_99 rfl ?_
        refine r_cS dX2_partnerOf_100 (s_isInO _ p (some e) (fun _ h => by cases h; exact he)) lX2_81 rfl rfl (by decide) ⟨Nat.le_refl _, Nat.le_refl _⟩ (Nat.le_of_ble_eq_true rfl) ?_
        dsimp only
        rw [hq.1]
        refine r_if_eq 125 dX2_partnerOf_103 (by decide) (fun h103 => ?_) (fun h103 => ?_)
        · exact absurd h103 (by decide)
        · refine r_pc 106 rfl ?_
          refine r_aload_n dX2_partnerOf_106 rfl ?_
          refine r_get dX2_partnerOf_107 fX2_15 rfl rfl ?_
          refine r_iload dX2_partnerOf_110 rfl ?_
          refine r_iald dX2_partnerOf_112 rfl rfl he (by decide) ?_
          refine r_topi _ e4 ?_
          refine r_aload_n dX2_partnerOf_113 rfl ?_
          refine r_pc 114 rfl ?_
          refine r_get dX2_partnerOf_114 fX2_15 rfl rfl ?_
          refine r_iload_n dX2_partnerOf_117 rfl ?_
          refine r_iald dX2_partnerOf_118 rfl rfl hd (by decide) ?_
          refine r_topi _ e2 ?_
          refine r_icmp_neN 125 dX2_partnerOf_119 (by decide) (by omega) (by omega) (fun h119 => ?_) (fun h119 => ?_)
          · exact absurd hq.2 h119
          · refine r_pc 122 rfl ?_
            refine r_iload dX2_partnerOf_122 rfl ?_
            exact r_iret dX2_partnerOf_124 rfl rfl rfl
      · have hr : mate c f p g d = (match bes c f d 3 with | none => none | some e => if p e = true ∧ f e = f d then some e else none) := by simp only [mate, if_neg hg3, hb, if_neg hq]
        rw [hr]
        cases hp : p e with
        | false =>
          refine r_aload_n dX2_partnerOf_89 rfl ?_
          refine r_iload_n dX2_partnerOf_90 rfl ?_
          refine r_iconst (v := (nI 1)) dX2_partnerOf_91 (by decide) ?_
          refine r_cV dX2_partnerOf_92 (s_beside hd (by decide) hS hs) lX2_103 rfl rfl rfl (by decide) ⟨Nat.le_refl _, Nat.le_refl _⟩ (Nat.le_of_ble_eq_true rfl) ?_
          rw [hb]
          refine r_istore (ls' := [_, _, _, _, _, _]) dX2_partnerOf_95 (by decide) rfl ?_
          refine r_pc 97 rfl ?_
          refine r_iload dX2_partnerOf_97 rfl ?_
          refine r_iload_n dX2_partnerOf_99 rfl ?_
          refine r_cS dX2_partnerOf_100 (s_isInO _ p (some e) (fun _ h => by cases h; exact he)) lX2_81 rfl rfl (by decide) ⟨Nat.le_refl _, Nat.le_refl _⟩ (Nat.le_of_ble_eq_true rfl) ?_
          dsimp only
          rw [hp]
          refine r_if_eq 125 dX2_partnerOf_103 (by decide) (fun h103 => ?_) (fun h103 => ?_)
          · refine r_pc 125 rfl ?_
            refine r_pc 125 rfl ?_
            exact C _
          · exact absurd rfl h103
        | true =>
          refine r_aload_n dX2_partnerOf_89 rfl ?_
          refine r_iload_n dX2_partnerOf_90 rfl ?_
          refine r_iconst (v := (nI 1)) dX2_partnerOf_91 (by decide) ?_
          refine r_cV dX2_partnerOf_92 (s_beside hd (by decide) hS hs) lX2_103 rfl rfl rfl (by decide) ⟨Nat.le_refl _, Nat.le_refl _⟩ (Nat.le_of_ble_eq_true rfl) ?_
          rw [hb]
          refine r_istore (ls' := [_, _, _, _, _, _]) dX2_partnerOf_95 (by decide) rfl ?_
          refine r_pc 97 rfl ?_
          refine r_iload dX2_partnerOf_97 rfl ?_
          refine r_iload_n dX2_partnerOf_99 rfl ?_
          refine r_cS dX2_partnerOf_100 (s_isInO _ p (some e) (fun _ h => by cases h; exact he)) lX2_81 rfl rfl (by decide) ⟨Nat.le_refl _, Nat.le_refl _⟩ (Nat.le_of_ble_eq_true rfl) ?_
          dsimp only
          rw [hp]
          refine r_if_eq 125 dX2_partnerOf_103 (by decide) (fun h103 => ?_) (fun h103 => ?_)
          · exact absurd h103 (by decide)
          · refine r_pc 106 rfl ?_
            refine r_aload_n dX2_partnerOf_106 rfl ?_
            refine r_get dX2_partnerOf_107 fX2_15 rfl rfl ?_
            refine r_iload dX2_partnerOf_110 rfl ?_
            refine r_iald dX2_partnerOf_112 rfl rfl he (by decide) ?_
            refine r_topi _ e4 ?_
            refine r_aload_n dX2_partnerOf_113 rfl ?_
            refine r_pc 114 rfl ?_
            refine r_get dX2_partnerOf_114 fX2_15 rfl rfl ?_
            refine r_iload_n dX2_partnerOf_117 rfl ?_
            refine r_iald dX2_partnerOf_118 rfl rfl hd (by decide) ?_
            refine r_topi _ e2 ?_
            refine r_icmp_neN 125 dX2_partnerOf_119 (by decide) (by omega) (by omega) (fun h119 => ?_) (fun h119 => ?_)
            · refine r_pc 125 rfl ?_
              refine r_pc 125 rfl ?_
              exact C _
            · exact absurd ⟨hp, h119⟩ hq
  refine r_iload_n dX2_partnerOf_0 rfl ?_
  refine r_iconst (v := (nI 5)) dX2_partnerOf_1 (by decide) ?_
  refine r_icmp_eqN 17 dX2_partnerOf_2 (by decide) (by omega) (by omega) (fun h2 => ?_) (fun h2 => ?_)
  · refine r_pc 17 rfl ?_
    refine r_pc 17 rfl ?_
    exact A (by omega)
  · refine r_pc 5 rfl ?_
    refine r_iload_n dX2_partnerOf_5 rfl ?_
    refine r_bipush (v := (nI 6)) dX2_partnerOf_6 (by decide) ?_
    refine r_icmp_eqN 17 dX2_partnerOf_8 (by decide) (by omega) (by omega) (fun h8 => ?_) (fun h8 => ?_)
    · refine r_pc 17 rfl ?_
      refine r_pc 17 rfl ?_
      exact A (by omega)
    · refine r_pc 11 rfl ?_
      refine r_iload_n dX2_partnerOf_11 rfl ?_
      refine r_bipush (v := (nI 7)) dX2_partnerOf_12 (by decide) ?_
      refine r_icmp_neN 89 dX2_partnerOf_14 (by decide) (by omega) (by omega) (fun h14 => ?_) (fun h14 => ?_)
      · refine r_pc 89 rfl ?_
        refine r_pc 89 rfl ?_
        exact B (by omega)
      · refine r_pc 17 rfl ?_
        refine r_pc 17 rfl ?_
        exact A (by omega)
def fl (c f : Nat → Nat) (d e : Nat) : Nat := if bes c f d 1 = some e then d else e
def fr (c f : Nat → Nat) (d e : Nat) : Nat := if bes c f d 1 = some e then e else d
theorem s_planFold {d e : Nat} (hd : d < 8) (he : e < 8) (hS : Sq fc ff c f) (hs : Sd fs c) : Sem mX2_planFold 3 0 0 [.ref 4, .int (nI d), .int (nI e)] (cF x0 x1 x2 x3 fc ff fs ft fu fw fy fd po, R) none (cF x0 x1 x2 x3 fc ff fs (upd ft (fr c f d e) (stI (nb (c (fl c f d e)) (f (fl c f d e))))) (upd fu (fr c f d e) (nI ((f (fr c f d e) + 2) % 4))) fw fy fd po, R) := by
  refine sem_of (by decide) (Nat.le_of_ble_eq_true rfl) rfl ?_
  obtain ⟨e1, b1, e2, b2⟩ := hS d hd
  obtain ⟨e3, b3, e4, b4⟩ := hS e he
  by_cases hb : bes c f d 1 = some e
  · have h1 : fl c f d e = d := by simp [fl, hb]
    have h2 : fr c f d e = e := by simp [fr, hb]
    rw [h1, h2]
    refine r_aload_n dX2_planFold_0 rfl ?_
    refine r_iload_n dX2_planFold_1 rfl ?_
    refine r_iconst (v := (nI 1)) dX2_planFold_2 (by decide) ?_
    refine r_cV dX2_planFold_3 (s_beside hd (by decide) hS hs) lX2_103 rfl rfl rfl (by decide) ⟨Nat.le_refl _, Nat.le_refl _⟩ (Nat.le_of_ble_eq_true rfl) ?_
    refine r_iload_n dX2_planFold_6 rfl ?_
    refine r_pc 7 rfl ?_
    refine r_icmp_ne 14 dX2_planFold_7 (by decide) (fun h7 => ?_) (fun h7 => ?_)
    · exact absurd (by rw [hb]; rfl) h7
    · refine r_pc 10 rfl ?_
      refine r_iconst (v := (nI 1)) dX2_planFold_10 (by decide) ?_
      refine r_goto 15 dX2_planFold_11 (by decide) ?_
      refine r_istore_n (ls' := [_, _, _, _, _, _]) dX2_planFold_15 (by decide) rfl ?_
      refine r_iload_n dX2_planFold_16 rfl ?_
      refine r_if_eq 24 dX2_planFold_17 (by decide) (fun h17 => ?_) (fun h17 => ?_)
      · first | exact absurd h17 (by decide) | exact absurd (by decide) h17
      · refine r_pc 20 rfl ?_
        refine r_iload_n dX2_planFold_20 rfl ?_
        refine r_goto 25 dX2_planFold_21 (by decide) ?_
        refine r_istore (ls' := [_, _, _, _, _, _]) dX2_planFold_25 (by decide) rfl ?_
        refine r_iload_n dX2_planFold_27 rfl ?_
        refine r_if_eq 35 dX2_planFold_28 (by decide) (fun h28 => ?_) (fun h28 => ?_)
        · first | exact absurd h28 (by decide) | exact absurd (by decide) h28
        · refine r_pc 31 rfl ?_
          refine r_iload_n dX2_planFold_31 rfl ?_
          refine r_goto 36 dX2_planFold_32 (by decide) ?_
          refine r_istore (ls' := [_, _, _, _, _, _]) dX2_planFold_36 (by decide) rfl ?_
          refine r_aload_n dX2_planFold_38 rfl ?_
          refine r_get dX2_planFold_39 fX2_21 rfl rfl ?_
          refine r_pc 42 rfl ?_
          refine r_iload dX2_planFold_42 rfl ?_
          refine r_aload_n dX2_planFold_44 rfl ?_
          refine r_get dX2_planFold_45 fX2_9 rfl rfl ?_
          refine r_iload dX2_planFold_48 rfl ?_
          refine r_iald dX2_planFold_50 rfl rfl hd (by decide) ?_
          refine r_pc 51 rfl ?_
          refine r_topi _ e1 ?_
          refine r_aload_n dX2_planFold_51 rfl ?_
          refine r_get dX2_planFold_52 fX2_15 rfl rfl ?_
          refine r_iload dX2_planFold_55 rfl ?_
          refine r_iald dX2_planFold_57 rfl rfl hd (by decide) ?_
          refine r_topi _ e2 ?_
          refine r_cS dX2_planFold_58 (s_nb _ b1 (by omega)) lX2_85 rfl rfl (by decide) ⟨Nat.le_refl _, Nat.le_refl _⟩ (Nat.le_of_ble_eq_true rfl) ?_
          refine r_pc 61 rfl ?_
          rw [Nat.mod_eq_of_lt b2]
          refine r_iast (w2 := (cF _ _ _ _ _ _ _ _ _ _ _ _ _, _)) dX2_planFold_61 rfl rfl he (by decide) rfl ?_
          refine r_aload_n dX2_planFold_62 rfl ?_
          refine r_iload dX2_planFold_63 rfl ?_
          refine r_iconst (v := (nI 2)) dX2_planFold_65 (by decide) ?_
          refine r_cVv dX2_planFold_66 (s_turn he (by decide) hS) lX2_89 rfl rfl rfl (by decide) ⟨Nat.le_refl _, Nat.le_refl _⟩ (Nat.le_of_ble_eq_true rfl) ?_
          refine r_pc 69 rfl ?_
          exact r_vret dX2_planFold_69 rfl rfl rfl
  · have h1 : fl c f d e = e := by simp [fl, hb]
    have h2 : fr c f d e = d := by simp [fr, hb]
    rw [h1, h2]
    have hne : ¬ stI (bes c f d 1) = nI e := by
      intro q
      cases hx : bes c f d 1 with
      | none => rw [hx] at q; exact nI_m1 (by omega) q.symm
      | some x =>
        rw [hx] at q
        have hx8 := bes_lt hx
        exact hb (by rw [hx, (nI_eq (by omega) (by omega)).mp q])
    refine r_aload_n dX2_planFold_0 rfl ?_
    refine r_iload_n dX2_planFold_1 rfl ?_
    refine r_iconst (v := (nI 1)) dX2_planFold_2 (by decide) ?_
    refine r_cV dX2_planFold_3 (s_beside hd (by decide) hS hs) lX2_103 rfl rfl rfl (by decide) ⟨Nat.le_refl _, Nat.le_refl _⟩ (Nat.le_of_ble_eq_true rfl) ?_
    refine r_iload_n dX2_planFold_6 rfl ?_
    refine r_pc 7 rfl ?_
    refine r_icmp_ne 14 dX2_planFold_7 (by decide) (fun h7 => ?_) (fun h7 => ?_)
    · refine r_pc 14 rfl ?_
      refine r_iconst (v := (nI 0)) dX2_planFold_14 (by decide) ?_
      refine r_istore_n (ls' := [_, _, _, _, _, _]) dX2_planFold_15 (by decide) rfl ?_
      refine r_iload_n dX2_planFold_16 rfl ?_
      refine r_if_eq 24 dX2_planFold_17 (by decide) (fun h17 => ?_) (fun h17 => ?_)
      · refine r_pc 24 rfl ?_
        refine r_iload_n dX2_planFold_24 rfl ?_
        refine r_istore (ls' := [_, _, _, _, _, _]) dX2_planFold_25 (by decide) rfl ?_
        refine r_iload_n dX2_planFold_27 rfl ?_
        refine r_if_eq 35 dX2_planFold_28 (by decide) (fun h28 => ?_) (fun h28 => ?_)
        · refine r_pc 35 rfl ?_
          refine r_iload_n dX2_planFold_35 rfl ?_
          refine r_istore (ls' := [_, _, _, _, _, _]) dX2_planFold_36 (by decide) rfl ?_
          refine r_aload_n dX2_planFold_38 rfl ?_
          refine r_get dX2_planFold_39 fX2_21 rfl rfl ?_
          refine r_iload dX2_planFold_42 rfl ?_
          refine r_pc 44 rfl ?_
          refine r_aload_n dX2_planFold_44 rfl ?_
          refine r_get dX2_planFold_45 fX2_9 rfl rfl ?_
          refine r_iload dX2_planFold_48 rfl ?_
          refine r_iald dX2_planFold_50 rfl rfl he (by decide) ?_
          refine r_topi _ e3 ?_
          refine r_aload_n dX2_planFold_51 rfl ?_
          refine r_pc 52 rfl ?_
          refine r_get dX2_planFold_52 fX2_15 rfl rfl ?_
          refine r_iload dX2_planFold_55 rfl ?_
          refine r_iald dX2_planFold_57 rfl rfl he (by decide) ?_
          refine r_topi _ e4 ?_
          refine r_cS dX2_planFold_58 (s_nb _ b3 (by omega)) lX2_85 rfl rfl (by decide) ⟨Nat.le_refl _, Nat.le_refl _⟩ (Nat.le_of_ble_eq_true rfl) ?_
          rw [Nat.mod_eq_of_lt b4]
          refine r_iast (w2 := (cF _ _ _ _ _ _ _ _ _ _ _ _ _, _)) dX2_planFold_61 rfl rfl hd (by decide) rfl ?_
          refine r_pc 62 rfl ?_
          refine r_aload_n dX2_planFold_62 rfl ?_
          refine r_iload dX2_planFold_63 rfl ?_
          refine r_iconst (v := (nI 2)) dX2_planFold_65 (by decide) ?_
          refine r_cVv dX2_planFold_66 (s_turn hd (by decide) hS) lX2_89 rfl rfl rfl (by decide) ⟨Nat.le_refl _, Nat.le_refl _⟩ (Nat.le_of_ble_eq_true rfl) ?_
          exact r_vret dX2_planFold_69 rfl rfl rfl
        · first | exact absurd h28 (by decide) | exact absurd (by decide) h28
      · first | exact absurd h17 (by decide) | exact absurd (by decide) h17
    · exact absurd h7 hne
def chr (d : Nat) : Nat := if d % 2 = 0 then 1 else 3
def chU (f : Nat → Nat) (fu : Nat → Int32) (g d e : Nat) : Nat → Int32 :=
  if g = 6 then upd (upd fu d (nI ((f d + chr d) % 4))) e (nI ((f e + chr e) % 4))
  else if g = 7 then upd (upd fu d (nI ((f d + 1) % 4))) e (nI ((f e + 1) % 4))
  else if g = 9 then upd (upd fu d (nI ((f d + 2) % 4))) e (nI ((f e + 2) % 4))
  else fu
theorem chr_lt (d : Nat) : chr d < 4 := by unfold chr; split <;> decide
theorem s_planChange {d e g : Nat} (hd : d < 8) (he : e < 8) (hg : g < 11) (hS : Sq fc ff c f) : Sem mX2_planChange 3 0 0 [.ref 4, .int (nI d), .int (nI e), .int (nI g)] (cF x0 x1 x2 x3 fc ff fs ft fu fw fy fd po, R) none (cF x0 x1 x2 x3 fc ff fs (upd (upd ft d (nI (c e))) e (nI (c d))) (chU f fu g d e) fw fy fd po, R) := by
  refine sem_of (by decide) (Nat.le_of_ble_eq_true rfl) rfl ?_
  obtain ⟨e1, b1, e2, b2⟩ := hS d hd
  obtain ⟨e3, b3, e4, b4⟩ := hS e he
  refine r_aload_n dX2_planChange_0 rfl ?_
  refine r_get dX2_planChange_1 fX2_21 rfl rfl ?_
  refine r_iload_n dX2_planChange_4 rfl ?_
  refine r_aload_n dX2_planChange_5 rfl ?_
  refine r_get dX2_planChange_6 fX2_9 rfl rfl ?_
  refine r_pc 9 rfl ?_
  refine r_iload_n dX2_planChange_9 rfl ?_
  refine r_iald dX2_planChange_10 rfl rfl he (by decide) ?_
  refine r_iast (w2 := (cF _ _ _ _ _ _ _ _ _ _ _ _ _, _)) dX2_planChange_11 rfl rfl hd (by decide) rfl ?_
  refine r_aload_n dX2_planChange_12 rfl ?_
  refine r_get dX2_planChange_13 fX2_21 rfl rfl ?_
  refine r_pc 16 rfl ?_
  refine r_iload_n dX2_planChange_16 rfl ?_
  refine r_aload_n dX2_planChange_17 rfl ?_
  refine r_get dX2_planChange_18 fX2_9 rfl rfl ?_
  refine r_iload_n dX2_planChange_21 rfl ?_
  refine r_iald dX2_planChange_22 rfl rfl hd (by decide) ?_
  refine r_pc 23 rfl ?_
  refine r_iast (w2 := (cF _ _ _ _ _ _ _ _ _ _ _ _ _, _)) dX2_planChange_23 rfl rfl he (by decide) rfl ?_
  refine r_pc 24 rfl ?_
  rw [e1, e3]
  refine r_pc 24 rfl ?_
  by_cases h6 : g = 6
  · have hc : chU f fu g d e = upd (upd fu d (nI ((f d + chr d) % 4))) e (nI ((f e + chr e) % 4)) := by simp [chU, h6]
    rw [hc]
    have E : ∀ (st : List Value), st = st := fun _ => rfl
    have G2 : Rn mX2_planChange 3 0 0 (cF x0 x1 x2 x3 fc ff fs ft fu fw fy fd po, R) none (cF x0 x1 x2 x3 fc ff fs (upd (upd ft d (nI (c e))) e (nI (c d))) (upd (upd fu d (nI ((f d + chr d) % 4))) e (nI ((f e + chr e) % 4))) fw fy fd po, R) 0 0 46 [some (.ref 4), some (.int (nI d)), some (.int (nI e)), some (.int (nI g))] [] (cF x0 x1 x2 x3 fc ff fs (upd (upd ft d (nI (c e))) e (nI (c d))) (upd fu d (nI ((f d + chr d) % 4))) fw fy fd po, R) := by
      by_cases q : e % 2 = 0
      · have hq : chr e = 1 := by simp [chr, q]
        rw [hq]
        refine r_aload_n dX2_planChange_46 rfl ?_
        refine r_iload_n dX2_planChange_47 rfl ?_
        refine r_iload_n dX2_planChange_48 rfl ?_
        refine r_iconst (v := (nI 2)) dX2_planChange_49 (by decide) ?_
        refine r_iremN dX2_planChange_50 (by omega) (by decide) (by decide) ?_
        refine r_pc 51 rfl ?_
        rw [q]
        refine r_if_ne 58 dX2_planChange_51 (by decide) (fun h51 => ?_) (fun h51 => ?_)
        · exact absurd rfl h51
        · refine r_pc 54 rfl ?_
          refine r_iconst (v := (nI 1)) dX2_planChange_54 (by decide) ?_
          refine r_goto 59 dX2_planChange_55 (by decide) ?_
          refine r_cVv dX2_planChange_59 (s_turn he (by decide) hS) lX2_89 rfl rfl rfl (by decide) ⟨Nat.le_refl _, Nat.le_refl _⟩ (Nat.le_of_ble_eq_true rfl) ?_
          refine r_goto 104 dX2_planChange_62 (by decide) ?_
          exact r_vret dX2_planChange_104 rfl rfl rfl
      · have hq : chr e = 3 := by simp [chr, q]
        rw [hq]
        refine r_aload_n dX2_planChange_46 rfl ?_
        refine r_iload_n dX2_planChange_47 rfl ?_
        refine r_iload_n dX2_planChange_48 rfl ?_
        refine r_iconst (v := (nI 2)) dX2_planChange_49 (by decide) ?_
        refine r_iremN dX2_planChange_50 (by omega) (by decide) (by decide) ?_
        refine r_pc 51 rfl ?_
        refine r_if_ne 58 dX2_planChange_51 (by decide) (fun h51 => ?_) (fun h51 => ?_)
        · refine r_pc 58 rfl ?_
          refine r_iconst (v := (nI 3)) dX2_planChange_58 (by decide) ?_
          refine r_cVv dX2_planChange_59 (s_turn he (by decide) hS) lX2_89 rfl rfl rfl (by decide) ⟨Nat.le_refl _, Nat.le_refl _⟩ (Nat.le_of_ble_eq_true rfl) ?_
          refine r_goto 104 dX2_planChange_62 (by decide) ?_
          exact r_vret dX2_planChange_104 rfl rfl rfl
        · exact absurd (nI_z (by omega) h51) q
    by_cases q : d % 2 = 0
    · have hq : chr d = 1 := by simp [chr, q]
      rw [hq] at G2 ⊢
      refine r_iload_n dX2_planChange_24 rfl ?_
      refine r_bipush (v := (nI 6)) dX2_planChange_25 (by decide) ?_
      refine r_icmp_neN 65 dX2_planChange_27 (by decide) (by omega) (by omega) (fun h27 => ?_) (fun h27 => ?_)
      · exact absurd h6 h27
      · refine r_pc 30 rfl ?_
        refine r_aload_n dX2_planChange_30 rfl ?_
        refine r_iload_n dX2_planChange_31 rfl ?_
        refine r_iload_n dX2_planChange_32 rfl ?_
        refine r_iconst (v := (nI 2)) dX2_planChange_33 (by decide) ?_
        refine r_iremN dX2_planChange_34 (by omega) (by decide) (by decide) ?_
        refine r_pc 35 rfl ?_
        rw [q]
        refine r_if_ne 42 dX2_planChange_35 (by decide) (fun h35 => ?_) (fun h35 => ?_)
        · exact absurd rfl h35
        · refine r_pc 38 rfl ?_
          refine r_iconst (v := (nI 1)) dX2_planChange_38 (by decide) ?_
          refine r_goto 43 dX2_planChange_39 (by decide) ?_
          refine r_cVv dX2_planChange_43 (s_turn hd (by decide) hS) lX2_89 rfl rfl rfl (by decide) ⟨Nat.le_refl _, Nat.le_refl _⟩ (Nat.le_of_ble_eq_true rfl) ?_
          refine r_pc 46 rfl ?_
          exact G2
    · have hq : chr d = 3 := by simp [chr, q]
      rw [hq] at G2 ⊢
      refine r_iload_n dX2_planChange_24 rfl ?_
      refine r_bipush (v := (nI 6)) dX2_planChange_25 (by decide) ?_
      refine r_icmp_neN 65 dX2_planChange_27 (by decide) (by omega) (by omega) (fun h27 => ?_) (fun h27 => ?_)
      · exact absurd h6 h27
      · refine r_pc 30 rfl ?_
        refine r_aload_n dX2_planChange_30 rfl ?_
        refine r_iload_n dX2_planChange_31 rfl ?_
        refine r_iload_n dX2_planChange_32 rfl ?_
        refine r_iconst (v := (nI 2)) dX2_planChange_33 (by decide) ?_
        refine r_iremN dX2_planChange_34 (by omega) (by decide) (by decide) ?_
        refine r_pc 35 rfl ?_
        refine r_if_ne 42 dX2_planChange_35 (by decide) (fun h35 => ?_) (fun h35 => ?_)
        · refine r_pc 42 rfl ?_
          refine r_iconst (v := (nI 3)) dX2_planChange_42 (by decide) ?_
          refine r_cVv dX2_planChange_43 (s_turn hd (by decide) hS) lX2_89 rfl rfl rfl (by decide) ⟨Nat.le_refl _, Nat.le_refl _⟩ (Nat.le_of_ble_eq_true rfl) ?_
          refine r_pc 46 rfl ?_
          exact G2
        · exact absurd (nI_z (by omega) h35) q
  · by_cases h7 : g = 7
    · have hc : chU f fu g d e = upd (upd fu d (nI ((f d + 1) % 4))) e (nI ((f e + 1) % 4)) := by simp [chU, h7]
      rw [hc]
      refine r_iload_n dX2_planChange_24 rfl ?_
      refine r_bipush (v := (nI 6)) dX2_planChange_25 (by decide) ?_
      refine r_icmp_neN 65 dX2_planChange_27 (by decide) (by omega) (by omega) (fun h27 => ?_) (fun h27 => ?_)
      · refine r_pc 65 rfl ?_
        refine r_iload_n dX2_planChange_65 rfl ?_
        refine r_bipush (v := (nI 7)) dX2_planChange_66 (by decide) ?_
        refine r_icmp_neN 86 dX2_planChange_68 (by decide) (by omega) (by omega) (fun h68 => ?_) (fun h68 => ?_)
        · exact absurd h7 h68
        · refine r_pc 71 rfl ?_
          refine r_aload_n dX2_planChange_71 rfl ?_
          refine r_iload_n dX2_planChange_72 rfl ?_
          refine r_iconst (v := (nI 1)) dX2_planChange_73 (by decide) ?_
          refine r_cVv dX2_planChange_74 (s_turn hd (by decide) hS) lX2_89 rfl rfl rfl (by decide) ⟨Nat.le_refl _, Nat.le_refl _⟩ (Nat.le_of_ble_eq_true rfl) ?_
          refine r_aload_n dX2_planChange_77 rfl ?_
          refine r_pc 78 rfl ?_
          refine r_iload_n dX2_planChange_78 rfl ?_
          refine r_iconst (v := (nI 1)) dX2_planChange_79 (by decide) ?_
          refine r_cVv dX2_planChange_80 (s_turn he (by decide) hS) lX2_89 rfl rfl rfl (by decide) ⟨Nat.le_refl _, Nat.le_refl _⟩ (Nat.le_of_ble_eq_true rfl) ?_
          refine r_goto 104 dX2_planChange_83 (by decide) ?_
          exact r_vret dX2_planChange_104 rfl rfl rfl
      · exact absurd h27 h6
    · by_cases h9 : g = 9
      · have hc : chU f fu g d e = upd (upd fu d (nI ((f d + 2) % 4))) e (nI ((f e + 2) % 4)) := by simp [chU, h9]
        rw [hc]
        refine r_iload_n dX2_planChange_24 rfl ?_
        refine r_bipush (v := (nI 6)) dX2_planChange_25 (by decide) ?_
        refine r_icmp_neN 65 dX2_planChange_27 (by decide) (by omega) (by omega) (fun h27 => ?_) (fun h27 => ?_)
        · refine r_pc 65 rfl ?_
          refine r_iload_n dX2_planChange_65 rfl ?_
          refine r_bipush (v := (nI 7)) dX2_planChange_66 (by decide) ?_
          refine r_icmp_neN 86 dX2_planChange_68 (by decide) (by omega) (by omega) (fun h68 => ?_) (fun h68 => ?_)
          · refine r_pc 86 rfl ?_
            refine r_iload_n dX2_planChange_86 rfl ?_
            refine r_bipush (v := (nI 9)) dX2_planChange_87 (by decide) ?_
            refine r_icmp_neN 104 dX2_planChange_89 (by decide) (by omega) (by omega) (fun h89 => ?_) (fun h89 => ?_)
            · exact absurd h9 h89
            · refine r_pc 92 rfl ?_
              refine r_aload_n dX2_planChange_92 rfl ?_
              refine r_iload_n dX2_planChange_93 rfl ?_
              refine r_iconst (v := (nI 2)) dX2_planChange_94 (by decide) ?_
              refine r_cVv dX2_planChange_95 (s_turn hd (by decide) hS) lX2_89 rfl rfl rfl (by decide) ⟨Nat.le_refl _, Nat.le_refl _⟩ (Nat.le_of_ble_eq_true rfl) ?_
              refine r_aload_n dX2_planChange_98 rfl ?_
              refine r_pc 99 rfl ?_
              refine r_iload_n dX2_planChange_99 rfl ?_
              refine r_iconst (v := (nI 2)) dX2_planChange_100 (by decide) ?_
              refine r_cVv dX2_planChange_101 (s_turn he (by decide) hS) lX2_89 rfl rfl rfl (by decide) ⟨Nat.le_refl _, Nat.le_refl _⟩ (Nat.le_of_ble_eq_true rfl) ?_
              exact r_vret dX2_planChange_104 rfl rfl rfl
          · exact absurd h68 h7
        · exact absurd h27 h6
      · have hc : chU f fu g d e = fu := by simp [chU, h6, h7, h9]
        rw [hc]
        refine r_iload_n dX2_planChange_24 rfl ?_
        refine r_bipush (v := (nI 6)) dX2_planChange_25 (by decide) ?_
        refine r_icmp_neN 65 dX2_planChange_27 (by decide) (by omega) (by omega) (fun h27 => ?_) (fun h27 => ?_)
        · refine r_pc 65 rfl ?_
          refine r_iload_n dX2_planChange_65 rfl ?_
          refine r_bipush (v := (nI 7)) dX2_planChange_66 (by decide) ?_
          refine r_icmp_neN 86 dX2_planChange_68 (by decide) (by omega) (by omega) (fun h68 => ?_) (fun h68 => ?_)
          · refine r_pc 86 rfl ?_
            refine r_iload_n dX2_planChange_86 rfl ?_
            refine r_bipush (v := (nI 9)) dX2_planChange_87 (by decide) ?_
            refine r_icmp_neN 104 dX2_planChange_89 (by decide) (by omega) (by omega) (fun h89 => ?_) (fun h89 => ?_)
            · refine r_pc 104 rfl ?_
              exact r_vret dX2_planChange_104 rfl rfl rfl
            · exact absurd h89 h9
          · exact absurd h68 h7
        · exact absurd h27 h6
end F5
end
section
/-! ===== a whole call's pairs ===== -/
def up {α : Type} (f : Nat → α) (k : Nat) (v : α) : Nat → α := fun j => if j = k then v else f j
theorem upd_st (t : Nat → Option Nat) (k : Nat) (v : Option Nat) : upd (fun j => stI (t j)) k (stI v) = fun j => stI (up t k v j) := by
  funext j
  by_cases h : j = k
  · subst h; rw [pk_us]; simp [up]
  · rw [pk_un h]; simp [up, h]
theorem upd_nu (t : Nat → Nat) (k : Nat) (v : Nat) : upd (fun j => nI (t j)) k (nI v) = fun j => nI (up t k v j) := by
  funext j
  by_cases h : j = k
  · subst h; rw [pk_us]; simp [up]
  · rw [pk_un h]; simp [up, h]
def pT (c f : Nat → Nat) (g d e : Nat) (t : Nat → Option Nat) : Nat → Option Nat :=
  if g = 10 then up t (fr c f d e) (nb (c (fl c f d e)) (f (fl c f d e))) else up (up t d (some (c e))) e (some (c d))
def pU (c f : Nat → Nat) (g d e : Nat) (u : Nat → Nat) : Nat → Nat :=
  if g = 10 then up u (fr c f d e) ((f (fr c f d e) + 2) % 4)
  else if g = 6 then up (up u d ((f d + chr d) % 4)) e ((f e + chr e) % 4)
  else if g = 7 then up (up u d ((f d + 1) % 4)) e ((f e + 1) % 4)
  else if g = 9 then up (up u d ((f d + 2) % 4)) e ((f e + 2) % 4)
  else u
theorem chU_nu (f u : Nat → Nat) {c : Nat → Nat} {g d e : Nat} (hg : ¬ g = 10) : chU f (fun j => nI (u j)) g d e = fun j => nI (pU c f g d e u j) := by
  unfold chU pU
  rw [if_neg hg]
  by_cases h6 : g = 6
  · rw [if_pos h6, if_pos h6, upd_nu, upd_nu]
  · rw [if_neg h6, if_neg h6]
    by_cases h7 : g = 7
    · rw [if_pos h7, if_pos h7, upd_nu, upd_nu]
    · rw [if_neg h7, if_neg h7]
      by_cases h9 : g = 9
      · rw [if_pos h9, if_pos h9, upd_nu, upd_nu]
      · rw [if_neg h9, if_neg h9]
/-- who is free, where each goes, how it faces then, how many pairs: behind the first i dancers -/
def pst (c f : Nat → Nat) (g : Nat) (p0 : Nat → Bool) : Nat → (Nat → Bool) × (Nat → Option Nat) × (Nat → Nat) × Nat
  | 0 => (p0, fun d => some (c d), f, 0)
  | i + 1 => match (pst c f g p0 i).1 i with
    | false => pst c f g p0 i
    | true => match mate c f (pst c f g p0 i).1 g i with
      | none => pst c f g p0 i
      | some e => (fun j => (pst c f g p0 i).1 j && (!decide (j = i) && !decide (j = e)), pT c f g i e (pst c f g p0 i).2.1, pU c f g i e (pst c f g p0 i).2.2.1, (pst c f g p0 i).2.2.2 + 1)
theorem mate_lt {c f : Nat → Nat} {p : Nat → Bool} {g d e : Nat} (h : mate c f p g d = some e) : e < 8 := by
  unfold mate at h
  split at h
  · split at h
    · cases h
    · rename_i hb
      split at h
      · cases h; exact bes_lt hb
      · cases h
  · split at h
    · split at h
      · cases h
      · rename_i hb
        split at h
        · cases h; exact bes_lt hb
        · cases h
    · rename_i hb
      split at h
      · cases h; exact bes_lt hb
      · split at h
        · cases h
        · rename_i hb
          split at h
          · cases h; exact bes_lt hb
          · cases h
theorem mb_clrs : ∀ b0 b1 b2 b3 b4 b5 b6 b7 : Bool, ∀ d, d < 8 → ∀ e, e < 8 → mbI (fun j => [b0, b1, b2, b3, b4, b5, b6, b7].getD j false) 8 &&& ((nI 1 <<< (nI d &&& 31) ||| nI 1 <<< (nI e &&& 31)) ^^^ -1) = mbI (fun j => [b0, b1, b2, b3, b4, b5, b6, b7].getD j false && (!decide (j = d) && !decide (j = e))) 8 := by decide +kernel
theorem mb_clr (p : Nat → Bool) {d e : Nat} (hd : d < 8) (he : e < 8) : mbI p 8 &&& ((nI 1 <<< (nI d &&& 31) ||| nI 1 <<< (nI e &&& 31)) ^^^ -1) = mbI (fun j => p j && (!decide (j = d) && !decide (j = e))) 8 := by
  have h := mb_clrs (p 0) (p 1) (p 2) (p 3) (p 4) (p 5) (p 6) (p 7) d hd e he
  rw [← mbI_ext 8 (mb_list p)] at h
  rw [h]
  exact mbI_ext 8 (fun j hj => by rw [← mb_list p j hj])
section F6
variable {x0 x1 x2 x3 : AE} {fc ff fs ft fu fw : Nat → Int32} {fy fd : Int32} {po : List AE}
variable {R : List AE} {c f : Nat → Nat}
theorem s_planPairs {p : Nat → Bool} {g : Nat} (hg : g < 11) (hS : Sq fc ff c f) (hs : Sd fs c) (hft : ∀ j, j < 8 → ft j = nI (c j)) (hfu : ∀ j, j < 8 → fu j = nI (f j)) (hfd : fd = nI 0) : Sem mX2_planPairs 4 0 0 [.ref 4, .int (mbI p 8), .int (nI g)] (cF x0 x1 x2 x3 fc ff fs ft fu fw fy fd po, R) none (cF x0 x1 x2 x3 fc ff fs (fun j => stI ((pst c f g p 8).2.1 j)) (fun j => nI ((pst c f g p 8).2.2.1 j)) fw (if (pst c f g p 8).2.2.2 = 0 then nI 4 else fy) (nI (pst c f g p 8).2.2.2) po, R) := by
  refine sem_of (by decide) (Nat.le_of_ble_eq_true rfl) rfl ?_
  generalize hw0 : (cF x0 x1 x2 x3 fc ff fs ft fu fw fy fd po, R) = w0
  have hcnt : ∀ i, (pst c f g p i).2.2.2 ≤ i := by
    intro i
    induction i with
    | zero => exact Nat.le_refl _
    | succ i ih =>
      unfold pst
      split
      · omega
      · split
        · omega
        · show _ + 1 ≤ i + 1
          omega
  have L : ∀ (m i : Nat) (x5 : Option Value), i + m = 8 → Rn mX2_planPairs 4 0 0 w0 none (cF x0 x1 x2 x3 fc ff fs (fun j => stI ((pst c f g p 8).2.1 j)) (fun j => nI ((pst c f g p 8).2.2.1 j)) fw (if (pst c f g p 8).2.2.2 = 0 then nI 4 else fy) (nI (pst c f g p 8).2.2.2) po, R) 0 0 5 [some (.ref 4), some (.int (mbI p 8)), some (.int (nI g)), some (.int (mbI (pst c f g p i).1 8)), some (.int (nI i)), x5] [] (cF x0 x1 x2 x3 fc ff fs (fun j => stI ((pst c f g p i).2.1 j)) (fun j => nI ((pst c f g p i).2.2.1 j)) fw fy (nI (pst c f g p i).2.2.2) po, R) := by
    intro m
    induction m with
    | zero =>
      intro i x5 hi
      have : i = 8 := by omega
      subst this
      have hc8 := hcnt 8
      refine r_iload dX2_planPairs_5 rfl ?_
      refine r_bipush (v := (nI 8)) dX2_planPairs_7 (by decide) ?_
      refine r_icmp_geN 100 dX2_planPairs_9 (by decide) (by omega) (by omega) (fun h9 => ?_) (fun h9 => ?_)
      · refine r_pc 100 rfl ?_
        refine r_aload_n dX2_planPairs_100 rfl ?_
        refine r_get dX2_planPairs_101 fX2_34 rfl rfl ?_
        refine r_if_ne 112 dX2_planPairs_104 (by decide) (fun h104 => ?_) (fun h104 => ?_)
        · rw [if_neg (fun q => h104 (by rw [q]; rfl))]
          refine r_pc 112 rfl ?_
          exact r_vret dX2_planPairs_112 rfl rfl rfl
        · rw [if_pos (nI_z (by omega) h104)]
          refine r_pc 107 rfl ?_
          refine r_aload_n dX2_planPairs_107 rfl ?_
          refine r_iconst (v := (nI 4)) dX2_planPairs_108 (by decide) ?_
          refine r_put (w2 := (cF _ _ _ _ _ _ _ _ _ _ _ _ _, _)) dX2_planPairs_109 fX2_30 rfl rfl (Nat.le_of_ble_eq_true rfl) (fun _ => rfl) (fun _ => rfl) rfl ?_
          exact r_vret dX2_planPairs_112 rfl rfl rfl
      · exact absurd h9 (by omega)
    | succ m ih =>
      intro i x5 hi
      have hi8 : i < 8 := by omega
      have ih := fun x5 => ih (i + 1) x5 (by omega)
      cases hp : (pst c f g p i).1 i with
      | false =>
        have he : pst c f g p (i + 1) = pst c f g p i := by rw [pst, hp]
        rw [he] at ih
        refine r_iload dX2_planPairs_5 rfl ?_
        refine r_bipush (v := (nI 8)) dX2_planPairs_7 (by decide) ?_
        refine r_icmp_geN 100 dX2_planPairs_9 (by decide) (by omega) (by omega) (fun h9 => ?_) (fun h9 => ?_)
        · exact absurd h9 (by omega)
        · refine r_pc 12 rfl ?_
          refine r_iload dX2_planPairs_12 rfl ?_
          refine r_iload_n dX2_planPairs_14 rfl ?_
          refine r_cS dX2_planPairs_15 (s_isInB _ _ hi8) lX2_81 rfl rfl (by decide) ⟨Nat.le_refl _, Nat.le_refl _⟩ (Nat.le_of_ble_eq_true rfl) ?_
          rw [hp]
          refine r_if_eq 32 dX2_planPairs_18 (by decide) (fun h18 => ?_) (fun h18 => ?_)
          · refine r_pc 32 rfl ?_
            refine r_iconst (v := (-1)) dX2_planPairs_32 (by decide) ?_
            refine r_istore (ls' := [_, _, _, _, _, _]) dX2_planPairs_33 (by decide) rfl ?_
            refine r_iload dX2_planPairs_35 rfl ?_
            refine r_iconst (v := (-1)) dX2_planPairs_37 (by decide) ?_
            refine r_icmp_ne 44 dX2_planPairs_38 (by decide) (fun h38 => ?_) (fun h38 => ?_)
            · first | exact absurd h38 (by decide) | exact absurd (by decide) h38
            · refine r_pc 41 rfl ?_
              refine r_goto 94 dX2_planPairs_41 (by decide) ?_
              refine r_inc1 (ls' := [_, _, _, _, _, _]) dX2_planPairs_94 (by decide) rfl rfl ?_
              refine r_goto 5 dX2_planPairs_97 (by decide) ?_
              refine r_pc 5 rfl ?_
              exact ih _
          · exact absurd rfl h18
      | true =>
        cases hm : mate c f (pst c f g p i).1 g i with
        | none =>
          have he : pst c f g p (i + 1) = pst c f g p i := by rw [pst, hp]; dsimp only; rw [hm]
          rw [he] at ih
          refine r_iload dX2_planPairs_5 rfl ?_
          refine r_bipush (v := (nI 8)) dX2_planPairs_7 (by decide) ?_
          refine r_icmp_geN 100 dX2_planPairs_9 (by decide) (by omega) (by omega) (fun h9 => ?_) (fun h9 => ?_)
          · exact absurd h9 (by omega)
          · refine r_pc 12 rfl ?_
            refine r_iload dX2_planPairs_12 rfl ?_
            refine r_iload_n dX2_planPairs_14 rfl ?_
            refine r_cS dX2_planPairs_15 (s_isInB _ _ hi8) lX2_81 rfl rfl (by decide) ⟨Nat.le_refl _, Nat.le_refl _⟩ (Nat.le_of_ble_eq_true rfl) ?_
            rw [hp]
            refine r_if_eq 32 dX2_planPairs_18 (by decide) (fun h18 => ?_) (fun h18 => ?_)
            · exact absurd h18 (by decide)
            · refine r_pc 21 rfl ?_
              refine r_aload_n dX2_planPairs_21 rfl ?_
              refine r_iload dX2_planPairs_22 rfl ?_
              refine r_iload_n dX2_planPairs_24 rfl ?_
              refine r_iload_n dX2_planPairs_25 rfl ?_
              refine r_cV dX2_planPairs_26 (s_partnerOf hi8 hg hS hs) lX2_92 rfl rfl rfl (by decide) ⟨Nat.le_refl _, Nat.le_refl _⟩ (Nat.le_of_ble_eq_true rfl) ?_
              refine r_pc 29 rfl ?_
              refine r_goto 33 dX2_planPairs_29 (by decide) ?_
              rw [hm]
              refine r_istore (ls' := [_, _, _, _, _, _]) dX2_planPairs_33 (by decide) rfl ?_
              refine r_iload dX2_planPairs_35 rfl ?_
              refine r_iconst (v := (-1)) dX2_planPairs_37 (by decide) ?_
              refine r_icmp_ne 44 dX2_planPairs_38 (by decide) (fun h38 => ?_) (fun h38 => ?_)
              · exact absurd rfl h38
              · refine r_pc 41 rfl ?_
                refine r_goto 94 dX2_planPairs_41 (by decide) ?_
                refine r_inc1 (ls' := [_, _, _, _, _, _]) dX2_planPairs_94 (by decide) rfl rfl ?_
                refine r_goto 5 dX2_planPairs_97 (by decide) ?_
                refine r_pc 5 rfl ?_
                exact ih _
        | some e =>
          have he8 := mate_lt hm
          have he : pst c f g p (i + 1) = (fun j => (pst c f g p i).1 j && (!decide (j = i) && !decide (j = e)), pT c f g i e (pst c f g p i).2.1, pU c f g i e (pst c f g p i).2.2.1, (pst c f g p i).2.2.2 + 1) := by rw [pst, hp]; dsimp only; rw [hm]
          rw [he] at ih
          dsimp only at ih
          rw [← mb_clr _ hi8 he8] at ih
          by_cases h10 : g = 10
          · have q1 : (fun j => stI (pT c f g i e (pst c f g p i).2.1 j)) = upd (fun j => stI ((pst c f g p i).2.1 j)) (fr c f i e) (stI (nb (c (fl c f i e)) (f (fl c f i e)))) := by rw [upd_st]; simp only [pT, if_pos h10]
            have q2 : (fun j => nI (pU c f g i e (pst c f g p i).2.2.1 j)) = upd (fun j => nI ((pst c f g p i).2.2.1 j)) (fr c f i e) (nI ((f (fr c f i e) + 2) % 4)) := by rw [upd_nu]; simp only [pU, if_pos h10]
            rw [q1, q2] at ih
            refine r_iload dX2_planPairs_5 rfl ?_
            refine r_bipush (v := (nI 8)) dX2_planPairs_7 (by decide) ?_
            refine r_icmp_geN 100 dX2_planPairs_9 (by decide) (by omega) (by omega) (fun h9 => ?_) (fun h9 => ?_)
            · exact absurd h9 (by omega)
            · refine r_pc 12 rfl ?_
              refine r_iload dX2_planPairs_12 rfl ?_
              refine r_iload_n dX2_planPairs_14 rfl ?_
              refine r_cS dX2_planPairs_15 (s_isInB _ _ hi8) lX2_81 rfl rfl (by decide) ⟨Nat.le_refl _, Nat.le_refl _⟩ (Nat.le_of_ble_eq_true rfl) ?_
              rw [hp]
              refine r_if_eq 32 dX2_planPairs_18 (by decide) (fun h18 => ?_) (fun h18 => ?_)
              · exact absurd h18 (by decide)
              · refine r_pc 21 rfl ?_
                refine r_aload_n dX2_planPairs_21 rfl ?_
                refine r_iload dX2_planPairs_22 rfl ?_
                refine r_iload_n dX2_planPairs_24 rfl ?_
                refine r_iload_n dX2_planPairs_25 rfl ?_
                refine r_cV dX2_planPairs_26 (s_partnerOf hi8 hg hS hs) lX2_92 rfl rfl rfl (by decide) ⟨Nat.le_refl _, Nat.le_refl _⟩ (Nat.le_of_ble_eq_true rfl) ?_
                refine r_pc 29 rfl ?_
                refine r_goto 33 dX2_planPairs_29 (by decide) ?_
                rw [hm]
                refine r_istore (ls' := [_, _, _, _, _, _]) dX2_planPairs_33 (by decide) rfl ?_
                refine r_iload dX2_planPairs_35 rfl ?_
                refine r_iconst (v := (-1)) dX2_planPairs_37 (by decide) ?_
                refine r_icmp_ne 44 dX2_planPairs_38 (by decide) (fun h38 => ?_) (fun h38 => ?_)
                · refine r_pc 44 rfl ?_
                  refine r_iload_n dX2_planPairs_44 rfl ?_
                  refine r_iconst (v := (nI 1)) dX2_planPairs_45 (by decide) ?_
                  refine r_iload dX2_planPairs_46 rfl ?_
                  refine r_ishl dX2_planPairs_48 ?_
                  refine r_iconst (v := (nI 1)) dX2_planPairs_49 (by decide) ?_
                  refine r_pc 50 rfl ?_
                  refine r_iload dX2_planPairs_50 rfl ?_
                  refine r_ishl dX2_planPairs_52 ?_
                  refine r_ior dX2_planPairs_53 ?_
                  refine r_iconst (v := (-1)) dX2_planPairs_54 (by decide) ?_
                  refine r_ixor dX2_planPairs_55 ?_
                  refine r_pc 56 rfl ?_
                  refine r_iand dX2_planPairs_56 ?_
                  refine r_istore_n (ls' := [_, _, _, _, _, _]) dX2_planPairs_57 (by decide) rfl ?_
                  refine r_aload_n dX2_planPairs_58 rfl ?_
                  refine r_dup dX2_planPairs_59 rfl ?_
                  refine r_get dX2_planPairs_60 fX2_34 rfl rfl ?_
                  refine r_pc 63 rfl ?_
                  refine r_iconst (v := (nI 1)) dX2_planPairs_63 (by decide) ?_
                  refine r_iaddN dX2_planPairs_64 ?_
                  refine r_put (w2 := (cF _ _ _ _ _ _ _ _ _ _ _ _ _, _)) dX2_planPairs_65 fX2_34 rfl rfl (Nat.le_of_ble_eq_true rfl) (fun _ => rfl) (fun _ => rfl) rfl ?_
                  refine r_iload_n dX2_planPairs_68 rfl ?_
                  refine r_bipush (v := (nI 10)) dX2_planPairs_69 (by decide) ?_
                  refine r_pc 71 rfl ?_
                  refine r_icmp_neN 85 dX2_planPairs_71 (by decide) (by omega) (by omega) (fun h71 => ?_) (fun h71 => ?_)
                  · exact absurd h10 h71
                  · refine r_pc 74 rfl ?_
                    refine r_aload_n dX2_planPairs_74 rfl ?_
                    refine r_iload dX2_planPairs_75 rfl ?_
                    refine r_iload dX2_planPairs_77 rfl ?_
                    refine r_cVv dX2_planPairs_79 (s_planFold hi8 he8 hS hs) lX2_96 rfl rfl rfl (by decide) ⟨Nat.le_refl _, Nat.le_refl _⟩ (Nat.le_of_ble_eq_true rfl) ?_
                    refine r_goto 94 dX2_planPairs_82 (by decide) ?_
                    refine r_inc1 (ls' := [_, _, _, _, _, _]) dX2_planPairs_94 (by decide) rfl rfl ?_
                    refine r_goto 5 dX2_planPairs_97 (by decide) ?_
                    refine r_pc 5 rfl ?_
                    exact ih _
                · exact absurd h38 (nI_m1 (by omega))
          · have q1 : (fun j => stI (pT c f g i e (pst c f g p i).2.1 j)) = upd (upd (fun j => stI ((pst c f g p i).2.1 j)) i (nI (c e))) e (nI (c i)) := by rw [show nI (c e) = stI (some (c e)) from rfl, show nI (c i) = stI (some (c i)) from rfl, upd_st, upd_st]; simp only [pT, if_neg h10]
            rw [q1, ← chU_nu f _ h10] at ih
            refine r_iload dX2_planPairs_5 rfl ?_
            refine r_bipush (v := (nI 8)) dX2_planPairs_7 (by decide) ?_
            refine r_icmp_geN 100 dX2_planPairs_9 (by decide) (by omega) (by omega) (fun h9 => ?_) (fun h9 => ?_)
            · exact absurd h9 (by omega)
            · refine r_pc 12 rfl ?_
              refine r_iload dX2_planPairs_12 rfl ?_
              refine r_iload_n dX2_planPairs_14 rfl ?_
              refine r_cS dX2_planPairs_15 (s_isInB _ _ hi8) lX2_81 rfl rfl (by decide) ⟨Nat.le_refl _, Nat.le_refl _⟩ (Nat.le_of_ble_eq_true rfl) ?_
              rw [hp]
              refine r_if_eq 32 dX2_planPairs_18 (by decide) (fun h18 => ?_) (fun h18 => ?_)
              · exact absurd h18 (by decide)
              · refine r_pc 21 rfl ?_
                refine r_aload_n dX2_planPairs_21 rfl ?_
                refine r_iload dX2_planPairs_22 rfl ?_
                refine r_iload_n dX2_planPairs_24 rfl ?_
                refine r_iload_n dX2_planPairs_25 rfl ?_
                refine r_cV dX2_planPairs_26 (s_partnerOf hi8 hg hS hs) lX2_92 rfl rfl rfl (by decide) ⟨Nat.le_refl _, Nat.le_refl _⟩ (Nat.le_of_ble_eq_true rfl) ?_
                refine r_pc 29 rfl ?_
                refine r_goto 33 dX2_planPairs_29 (by decide) ?_
                rw [hm]
                refine r_istore (ls' := [_, _, _, _, _, _]) dX2_planPairs_33 (by decide) rfl ?_
                refine r_iload dX2_planPairs_35 rfl ?_
                refine r_iconst (v := (-1)) dX2_planPairs_37 (by decide) ?_
                refine r_icmp_ne 44 dX2_planPairs_38 (by decide) (fun h38 => ?_) (fun h38 => ?_)
                · refine r_pc 44 rfl ?_
                  refine r_iload_n dX2_planPairs_44 rfl ?_
                  refine r_iconst (v := (nI 1)) dX2_planPairs_45 (by decide) ?_
                  refine r_iload dX2_planPairs_46 rfl ?_
                  refine r_ishl dX2_planPairs_48 ?_
                  refine r_iconst (v := (nI 1)) dX2_planPairs_49 (by decide) ?_
                  refine r_pc 50 rfl ?_
                  refine r_iload dX2_planPairs_50 rfl ?_
                  refine r_ishl dX2_planPairs_52 ?_
                  refine r_ior dX2_planPairs_53 ?_
                  refine r_iconst (v := (-1)) dX2_planPairs_54 (by decide) ?_
                  refine r_ixor dX2_planPairs_55 ?_
                  refine r_pc 56 rfl ?_
                  refine r_iand dX2_planPairs_56 ?_
                  refine r_istore_n (ls' := [_, _, _, _, _, _]) dX2_planPairs_57 (by decide) rfl ?_
                  refine r_aload_n dX2_planPairs_58 rfl ?_
                  refine r_dup dX2_planPairs_59 rfl ?_
                  refine r_get dX2_planPairs_60 fX2_34 rfl rfl ?_
                  refine r_pc 63 rfl ?_
                  refine r_iconst (v := (nI 1)) dX2_planPairs_63 (by decide) ?_
                  refine r_iaddN dX2_planPairs_64 ?_
                  refine r_put (w2 := (cF _ _ _ _ _ _ _ _ _ _ _ _ _, _)) dX2_planPairs_65 fX2_34 rfl rfl (Nat.le_of_ble_eq_true rfl) (fun _ => rfl) (fun _ => rfl) rfl ?_
                  refine r_iload_n dX2_planPairs_68 rfl ?_
                  refine r_bipush (v := (nI 10)) dX2_planPairs_69 (by decide) ?_
                  refine r_pc 71 rfl ?_
                  refine r_icmp_neN 85 dX2_planPairs_71 (by decide) (by omega) (by omega) (fun h71 => ?_) (fun h71 => ?_)
                  · refine r_pc 85 rfl ?_
                    refine r_aload_n dX2_planPairs_85 rfl ?_
                    refine r_iload dX2_planPairs_86 rfl ?_
                    refine r_iload dX2_planPairs_88 rfl ?_
                    refine r_iload_n dX2_planPairs_90 rfl ?_
                    refine r_cVv dX2_planPairs_91 (s_planChange hi8 he8 hg hS) lX2_99 rfl rfl rfl (by decide) ⟨Nat.le_refl _, Nat.le_refl _⟩ (Nat.le_of_ble_eq_true rfl) ?_
                    refine r_pc 94 rfl ?_
                    refine r_inc1 (ls' := [_, _, _, _, _, _]) dX2_planPairs_94 (by decide) rfl rfl ?_
                    refine r_goto 5 dX2_planPairs_97 (by decide) ?_
                    refine r_pc 5 rfl ?_
                    exact ih _
                  · exact absurd h71 h10
                · exact absurd h38 (nI_m1 (by omega))
  subst hw0
  subst hfd
  refine r_iload_n dX2_planPairs_0 rfl ?_
  refine r_istore_n (ls' := [_, _, _, _, _, _]) dX2_planPairs_1 (by decide) rfl ?_
  refine r_iconst (v := (nI 0)) dX2_planPairs_2 (by decide) ?_
  refine r_istore (ls' := [_, _, _, _, _, _]) dX2_planPairs_3 (by decide) rfl ?_
  refine r_pc 5 rfl ?_
  refine r_weq _ (weq_F (fun _ _ => rfl) (fun _ _ => rfl) (fun _ _ => rfl) hft hfu (fun _ _ => rfl)) ?_
  exact L 8 0 _ (by omega)
end F6
end
section
/-! ===== falls ===== -/
theorem nI_m {x : Nat} (h : x < 2 ^ 31) : ¬ (-1 : Int32) = nI x := fun q => nI_m1 h q.symm
theorem stI_nI {o : Option Nat} {x : Nat} (ho : ∀ y, o = some y → y < 2 ^ 31) (hx : x < 2 ^ 31) : stI o = nI x ↔ o = some x := by
  cases o with
  | none => exact ⟨fun q => absurd q (nI_m hx), fun q => by cases q⟩
  | some y => exact ⟨fun q => by rw [(nI_eq (ho y rfl) hx).mp q], fun q => by cases q; rfl⟩
def goesB (c : Nat → Nat) (t : Nat → Option Nat) (d : Nat) : Bool := !decide (t d = some (c d))
def blk (c : Nat → Nat) (t : Nat → Option Nat) (d x : Nat) : Bool := match who c 8 x with
  | none => false
  | some e => !goesB c t e || decide (t e = some (c d))
def crw (t : Nat → Option Nat) (d x : Nat) : Nat → Bool
  | 0 => false
  | n + 1 => crw t d x n || (!decide (n = d) && decide (t n = some x))
def whyf (c : Nat → Nat) (t : Nat → Option Nat) (d : Nat) : Nat := match t d with
  | none => 1
  | some x => if blk c t d x = true then 2 else if crw t d x 8 = true then 3 else 0
def wy (c : Nat → Nat) (t : Nat → Option Nat) (d : Nat) : Nat := if goesB c t d = true then whyf c t d else 0
def smf (c : Nat → Nat) (t : Nat → Option Nat) : Nat → Bool
  | 0 => false
  | n + 1 => smf c t n || !decide (wy c t n = 0)
theorem crw_ge {t : Nat → Option Nat} {d x i : Nat} (h : crw t d x i = true) : ∀ m, crw t d x (i + m) = true
  | 0 => h
  | m + 1 => by
    show (crw t d x (i + m) || _) = true
    rw [crw_ge h m]
    rfl
theorem whyf_lt (c : Nat → Nat) (t : Nat → Option Nat) (d : Nat) : whyf c t d < 4 := by
  unfold whyf
  split
  · decide
  · split
    · decide
    · split <;> decide
theorem wy_lt (c : Nat → Nat) (t : Nat → Option Nat) (d : Nat) : wy c t d < 4 := by
  unfold wy
  split
  · exact whyf_lt c t d
  · decide
theorem bI_or (a b : Bool) : bI a ||| bI b = bI (a || b) := by cases a <;> cases b <;> decide
def Tl (t : Nat → Option Nat) : Prop := ∀ j, j < 8 → ∀ x, t j = some x → x < 16
section F7
variable {x0 x1 x2 x3 : AE} {fc ff fs ft fu fw : Nat → Int32} {fy fd : Int32} {po : List AE}
variable {R : List AE} {c f : Nat → Nat} {t : Nat → Option Nat}
theorem s_goesB {d : Nat} (hd : d < 8) (hS : Sq fc ff c f) (ht : Tl t) (hft : ∀ j, j < 8 → ft j = stI (t j)) : Sem mX2_goes 1 0 0 [.ref 4, .int (nI d)] (cF x0 x1 x2 x3 fc ff fs ft fu fw fy fd po, R) (some (.int (bI (goesB c t d)))) (cF x0 x1 x2 x3 fc ff fs ft fu fw fy fd po, R) := by
  have h := s_goes (x0 := x0) (x1 := x1) (x2 := x2) (x3 := x3) (fc := fc) (ff := ff) (fs := fs) (ft := ft) (fu := fu) (fw := fw) (fy := fy) (fd := fd) (po := po) (R := R) hd
  obtain ⟨e1, b1, -, -⟩ := hS d hd
  have e : decide (¬ ft d = fc d) = goesB c t d := by
    rw [hft d hd, e1]
    unfold goesB
    by_cases q : t d = some (c d)
    · simp [q, stI]
    · have : ¬ stI (t d) = nI (c d) := fun z => q ((stI_nI (fun y hy => by have := ht d hd y hy; omega) (by omega)).mp z)
      simp [q, this]
  rw [e] at h
  exact h
theorem s_whyFalls {d : Nat} (hd : d < 8) (hS : Sq fc ff c f) (hs : Sd fs c) (ht : Tl t) (hft : ∀ j, j < 8 → ft j = stI (t j)) : Sem mX2_whyFalls 2 0 0 [.ref 4, .int (nI d)] (cF x0 x1 x2 x3 fc ff fs ft fu fw fy fd po, R) (some (.int (nI (whyf c t d)))) (cF x0 x1 x2 x3 fc ff fs ft fu fw fy fd po, R) := by
  refine sem_of (by decide) (Nat.le_of_ble_eq_true rfl) rfl ?_
  obtain ⟨e1, b1, -, -⟩ := hS d hd
  have e2 := hft d hd
  unfold whyf
  cases hx : t d with
  | none =>
    rw [hx] at e2
    refine r_aload_n dX2_whyFalls_0 rfl ?_
    refine r_get dX2_whyFalls_1 fX2_21 rfl rfl ?_
    refine r_iload_n dX2_whyFalls_4 rfl ?_
    refine r_iald dX2_whyFalls_5 rfl rfl hd (by decide) ?_
    refine r_topi _ e2 ?_
    refine r_istore_n (ls' := [_, _, _, _, _]) dX2_whyFalls_6 (by decide) rfl ?_
    refine r_pc 7 rfl ?_
    refine r_iload_n dX2_whyFalls_7 rfl ?_
    refine r_iconst (v := (-1)) dX2_whyFalls_8 (by decide) ?_
    refine r_icmp_ne 14 dX2_whyFalls_9 (by decide) (fun h9 => ?_) (fun h9 => ?_)
    · exact absurd rfl h9
    · refine r_pc 12 rfl ?_
      refine r_iconst (v := (nI 1)) dX2_whyFalls_12 (by decide) ?_
      exact r_iret dX2_whyFalls_13 rfl rfl rfl
  | some x =>
    rw [hx] at e2
    have hx16 := ht d hd x hx
    have L : ∀ (m i : Nat) (y3 : Int32), i + m = 8 → crw t d x i = false → Rn mX2_whyFalls 2 0 0 (cF x0 x1 x2 x3 fc ff fs ft fu fw fy fd po, R) (some (.int (nI (if crw t d x 8 = true then 3 else 0)))) (cF x0 x1 x2 x3 fc ff fs ft fu fw fy fd po, R) 0 0 54 [some (.ref 4), some (.int (nI d)), some (.int (nI x)), some (.int y3), some (.int (nI i))] [] (cF x0 x1 x2 x3 fc ff fs ft fu fw fy fd po, R) := by
      intro m
      induction m with
      | zero =>
        intro i y3 hi h1
        have : i = 8 := by omega
        subst this
        refine r_iload dX2_whyFalls_54 rfl ?_
        refine r_bipush (v := (nI 8)) dX2_whyFalls_56 (by decide) ?_
        refine r_icmp_geN 86 dX2_whyFalls_58 (by decide) (by omega) (by omega) (fun h58 => ?_) (fun h58 => ?_)
        · refine r_pc 86 rfl ?_
          refine r_iconst (v := (nI 0)) dX2_whyFalls_86 (by decide) ?_
          exact r_iret dX2_whyFalls_87 rfl (by rw [h1]; rfl) rfl
        · exact absurd h58 (by omega)
      | succ m ih =>
        intro i y3 hi h1
        have hi8 : i < 8 := by omega
        have e3 := hft i hi8
        refine r_iload dX2_whyFalls_54 rfl ?_
        refine r_bipush (v := (nI 8)) dX2_whyFalls_56 (by decide) ?_
        refine r_icmp_geN 86 dX2_whyFalls_58 (by decide) (by omega) (by omega) (fun h58 => ?_) (fun h58 => ?_)
        · exact absurd h58 (by omega)
        · refine r_pc 61 rfl ?_
          refine r_iload dX2_whyFalls_61 rfl ?_
          refine r_iload_n dX2_whyFalls_63 rfl ?_
          refine r_icmp_eqN 80 dX2_whyFalls_64 (by decide) (by omega) (by omega) (fun h64 => ?_) (fun h64 => ?_)
          · have hc : crw t d x (i + 1) = false := by (show (crw t d x i || _) = false; rw [h1]; simp [h64])
            refine r_pc 80 rfl ?_
            refine r_inc1 (ls' := [_, _, _, _, _]) dX2_whyFalls_80 (by decide) rfl rfl ?_
            refine r_goto 54 dX2_whyFalls_83 (by decide) ?_
            refine r_pc 54 rfl ?_
            exact ih (i + 1) _ (by omega) hc
          · refine r_pc 67 rfl ?_
            refine r_aload_n dX2_whyFalls_67 rfl ?_
            refine r_get dX2_whyFalls_68 fX2_21 rfl rfl ?_
            refine r_iload dX2_whyFalls_71 rfl ?_
            refine r_iald dX2_whyFalls_73 rfl rfl hi8 (by decide) ?_
            refine r_topi _ e3 ?_
            refine r_iload_n dX2_whyFalls_74 rfl ?_
            refine r_pc 75 rfl ?_
            refine r_icmp_ne 80 dX2_whyFalls_75 (by decide) (fun h75 => ?_) (fun h75 => ?_)
            · have hc : crw t d x (i + 1) = false := by (show (crw t d x i || _) = false; rw [h1]; simp; exact fun _ q => h75 (by rw [q]; rfl))
              refine r_pc 80 rfl ?_
              refine r_inc1 (ls' := [_, _, _, _, _]) dX2_whyFalls_80 (by decide) rfl rfl ?_
              refine r_goto 54 dX2_whyFalls_83 (by decide) ?_
              refine r_pc 54 rfl ?_
              exact ih (i + 1) _ (by omega) hc
            · have hc : crw t d x (i + 1) = true := by (show (crw t d x i || _) = true; rw [h1]; simp; exact ⟨h64, (stI_nI (fun y hy => by have := ht i hi8 y hy; omega) (by omega)).mp h75⟩)
              have hc8 := crw_ge hc m
              rw [show i + 1 + m = 8 by omega] at hc8
              refine r_pc 78 rfl ?_
              refine r_iconst (v := (nI 3)) dX2_whyFalls_78 (by decide) ?_
              exact r_iret dX2_whyFalls_79 rfl (by rw [hc8]; rfl) rfl
    dsimp only
    unfold blk
    have e3 := hs x hx16
    cases hw : who c 8 x with
    | none =>
      rw [hw] at e3
      simp only [Bool.false_eq_true, if_false]
      refine r_aload_n dX2_whyFalls_0 rfl ?_
      refine r_get dX2_whyFalls_1 fX2_21 rfl rfl ?_
      refine r_iload_n dX2_whyFalls_4 rfl ?_
      refine r_iald dX2_whyFalls_5 rfl rfl hd (by decide) ?_
      refine r_topi _ e2 ?_
      refine r_istore_n (ls' := [_, _, _, _, _]) dX2_whyFalls_6 (by decide) rfl ?_
      refine r_pc 7 rfl ?_
      refine r_iload_n dX2_whyFalls_7 rfl ?_
      refine r_iconst (v := (-1)) dX2_whyFalls_8 (by decide) ?_
      refine r_icmp_ne 14 dX2_whyFalls_9 (by decide) (fun h9 => ?_) (fun h9 => ?_)
      · refine r_pc 14 rfl ?_
        refine r_aload_n dX2_whyFalls_14 rfl ?_
        refine r_get dX2_whyFalls_15 fX2_18 rfl rfl ?_
        refine r_iload_n dX2_whyFalls_18 rfl ?_
        refine r_iald dX2_whyFalls_19 rfl rfl hx16 (by decide) ?_
        refine r_topi _ e3 ?_
        refine r_istore_n (ls' := [_, _, _, _, _]) dX2_whyFalls_20 (by decide) rfl ?_
        refine r_pc 21 rfl ?_
        refine r_iload_n dX2_whyFalls_21 rfl ?_
        refine r_iconst (v := (-1)) dX2_whyFalls_22 (by decide) ?_
        refine r_icmp_eq 51 dX2_whyFalls_23 (by decide) (fun h23 => ?_) (fun h23 => ?_)
        · refine r_pc 51 rfl ?_
          refine r_iconst (v := (nI 0)) dX2_whyFalls_51 (by decide) ?_
          refine r_istore (ls' := [_, _, _, _, _]) dX2_whyFalls_52 (by decide) rfl ?_
          refine r_pc 54 rfl ?_
          exact L 8 0 _ (by omega) rfl
        · exact absurd rfl h23
      · exact absurd h9 (nI_m1 (by omega))
    | some e =>
      rw [hw] at e3
      have he := who_lt hw
      dsimp only
      rcases Bool.eq_false_or_eq_true (goesB c t e) with hg | hg
      rotate_left
      · simp only [hg, Bool.not_false, Bool.true_or, if_true]
        refine r_aload_n dX2_whyFalls_0 rfl ?_
        refine r_get dX2_whyFalls_1 fX2_21 rfl rfl ?_
        refine r_iload_n dX2_whyFalls_4 rfl ?_
        refine r_iald dX2_whyFalls_5 rfl rfl hd (by decide) ?_
        refine r_topi _ e2 ?_
        refine r_istore_n (ls' := [_, _, _, _, _]) dX2_whyFalls_6 (by decide) rfl ?_
        refine r_pc 7 rfl ?_
        refine r_iload_n dX2_whyFalls_7 rfl ?_
        refine r_iconst (v := (-1)) dX2_whyFalls_8 (by decide) ?_
        refine r_icmp_ne 14 dX2_whyFalls_9 (by decide) (fun h9 => ?_) (fun h9 => ?_)
        · refine r_pc 14 rfl ?_
          refine r_aload_n dX2_whyFalls_14 rfl ?_
          refine r_get dX2_whyFalls_15 fX2_18 rfl rfl ?_
          refine r_iload_n dX2_whyFalls_18 rfl ?_
          refine r_iald dX2_whyFalls_19 rfl rfl hx16 (by decide) ?_
          refine r_topi _ e3 ?_
          refine r_istore_n (ls' := [_, _, _, _, _]) dX2_whyFalls_20 (by decide) rfl ?_
          refine r_pc 21 rfl ?_
          refine r_iload_n dX2_whyFalls_21 rfl ?_
          refine r_iconst (v := (-1)) dX2_whyFalls_22 (by decide) ?_
          refine r_icmp_eq 51 dX2_whyFalls_23 (by decide) (fun h23 => ?_) (fun h23 => ?_)
          · exact absurd h23 (nI_m1 (by omega))
          · refine r_pc 26 rfl ?_
            refine r_aload_n dX2_whyFalls_26 rfl ?_
            refine r_iload_n dX2_whyFalls_27 rfl ?_
            refine r_cV dX2_whyFalls_28 (s_goesB he hS ht hft) lX2_106 rfl rfl rfl (by decide) ⟨Nat.le_refl _, Nat.le_refl _⟩ (Nat.le_of_ble_eq_true rfl) ?_
            rw [hg]
            refine r_if_eq 49 dX2_whyFalls_31 (by decide) (fun h31 => ?_) (fun h31 => ?_)
            · refine r_pc 49 rfl ?_
              refine r_iconst (v := (nI 2)) dX2_whyFalls_49 (by decide) ?_
              exact r_iret dX2_whyFalls_50 rfl rfl rfl
            · exact absurd rfl h31
        · exact absurd h9 (nI_m1 (by omega))
      · simp only [hg, Bool.not_true, Bool.false_or, decide_eq_true_eq]
        refine r_aload_n dX2_whyFalls_0 rfl ?_
        refine r_get dX2_whyFalls_1 fX2_21 rfl rfl ?_
        refine r_iload_n dX2_whyFalls_4 rfl ?_
        refine r_iald dX2_whyFalls_5 rfl rfl hd (by decide) ?_
        refine r_topi _ e2 ?_
        refine r_istore_n (ls' := [_, _, _, _, _]) dX2_whyFalls_6 (by decide) rfl ?_
        refine r_pc 7 rfl ?_
        refine r_iload_n dX2_whyFalls_7 rfl ?_
        refine r_iconst (v := (-1)) dX2_whyFalls_8 (by decide) ?_
        refine r_icmp_ne 14 dX2_whyFalls_9 (by decide) (fun h9 => ?_) (fun h9 => ?_)
        · refine r_pc 14 rfl ?_
          refine r_aload_n dX2_whyFalls_14 rfl ?_
          refine r_get dX2_whyFalls_15 fX2_18 rfl rfl ?_
          refine r_iload_n dX2_whyFalls_18 rfl ?_
          refine r_iald dX2_whyFalls_19 rfl rfl hx16 (by decide) ?_
          refine r_topi _ e3 ?_
          refine r_istore_n (ls' := [_, _, _, _, _]) dX2_whyFalls_20 (by decide) rfl ?_
          refine r_pc 21 rfl ?_
          refine r_iload_n dX2_whyFalls_21 rfl ?_
          refine r_iconst (v := (-1)) dX2_whyFalls_22 (by decide) ?_
          refine r_icmp_eq 51 dX2_whyFalls_23 (by decide) (fun h23 => ?_) (fun h23 => ?_)
          · exact absurd h23 (nI_m1 (by omega))
          · refine r_pc 26 rfl ?_
            refine r_aload_n dX2_whyFalls_26 rfl ?_
            refine r_iload_n dX2_whyFalls_27 rfl ?_
            refine r_cV dX2_whyFalls_28 (s_goesB he hS ht hft) lX2_106 rfl rfl rfl (by decide) ⟨Nat.le_refl _, Nat.le_refl _⟩ (Nat.le_of_ble_eq_true rfl) ?_
            rw [hg]
            refine r_if_eq 49 dX2_whyFalls_31 (by decide) (fun h31 => ?_) (fun h31 => ?_)
            · exact absurd h31 (by decide)
            · refine r_pc 34 rfl ?_
              refine r_aload_n dX2_whyFalls_34 rfl ?_
              refine r_get dX2_whyFalls_35 fX2_21 rfl rfl ?_
              refine r_iload_n dX2_whyFalls_38 rfl ?_
              refine r_iald dX2_whyFalls_39 rfl rfl he (by decide) ?_
              refine r_topi _ (hft e he) ?_
              refine r_aload_n dX2_whyFalls_40 rfl ?_
              refine r_pc 41 rfl ?_
              refine r_get dX2_whyFalls_41 fX2_9 rfl rfl ?_
              refine r_iload_n dX2_whyFalls_44 rfl ?_
              refine r_iald dX2_whyFalls_45 rfl rfl hd (by decide) ?_
              refine r_topi _ e1 ?_
              refine r_icmp_ne 51 dX2_whyFalls_46 (by decide) (fun h46 => ?_) (fun h46 => ?_)
              · rw [if_neg (fun q => h46 (by rw [q]; rfl))]
                refine r_pc 51 rfl ?_
                refine r_iconst (v := (nI 0)) dX2_whyFalls_51 (by decide) ?_
                refine r_istore (ls' := [_, _, _, _, _]) dX2_whyFalls_52 (by decide) rfl ?_
                refine r_pc 54 rfl ?_
                exact L 8 0 _ (by omega) rfl
              · rw [if_pos ((stI_nI (fun y hy => by have := ht e he y hy; omega) (by omega)).mp h46)]
                refine r_pc 49 rfl ?_
                refine r_iconst (v := (nI 2)) dX2_whyFalls_49 (by decide) ?_
                exact r_iret dX2_whyFalls_50 rfl rfl rfl
        · exact absurd h9 (nI_m1 (by omega))
theorem s_someFall (hS : Sq fc ff c f) (hs : Sd fs c) (ht : Tl t) (hft : ∀ j, j < 8 → ft j = stI (t j)) : Sem mX2_someFall 3 0 0 [.ref 4] (cF x0 x1 x2 x3 fc ff fs ft fu fw fy fd po, R) (some (.int (bI (smf c t 8)))) (cF x0 x1 x2 x3 fc ff fs ft fu (fun j => nI (wy c t j)) fy fd po, R) := by
  refine sem_of (by decide) (Nat.le_of_ble_eq_true rfl) rfl ?_
  generalize hw0 : (cF x0 x1 x2 x3 fc ff fs ft fu fw fy fd po, R) = w0
  have L : ∀ (m i : Nat) (fw : Nat → Int32), i + m = 8 → (∀ j, j < i → fw j = nI (wy c t j)) → Rn mX2_someFall 3 0 0 w0 (some (.int (bI (smf c t 8)))) (cF x0 x1 x2 x3 fc ff fs ft fu (fun j => nI (wy c t j)) fy fd po, R) 0 0 4 [some (.ref 4), some (.int (bI (smf c t i))), some (.int (nI i))] [] (cF x0 x1 x2 x3 fc ff fs ft fu fw fy fd po, R) := by
    intro m
    induction m with
    | zero =>
      intro i fw hi h1
      have : i = 8 := by omega
      subst this
      refine r_weq _ (weq_F (fun _ _ => rfl) (fun _ _ => rfl) (fun _ _ => rfl) (fun _ _ => rfl) (fun _ _ => rfl) h1) ?_
      refine r_iload_n dX2_someFall_4 rfl ?_
      refine r_bipush (v := (nI 8)) dX2_someFall_5 (by decide) ?_
      refine r_icmp_geN 56 dX2_someFall_7 (by decide) (by omega) (by omega) (fun h7 => ?_) (fun h7 => ?_)
      · refine r_pc 56 rfl ?_
        refine r_iload_n dX2_someFall_56 rfl ?_
        exact r_zret dX2_someFall_57 rfl (by cases smf c t 8 <;> rfl) rfl rfl
      · exact absurd h7 (by omega)
    | succ m ih =>
      intro i fw hi h1
      have hi8 : i < 8 := by omega
      have hwl := wy_lt c t i
      have T : ∀ (fw : Nat → Int32), (∀ j, j < i + 1 → fw j = nI (wy c t j)) → Rn mX2_someFall 3 0 0 w0 (some (.int (bI (smf c t 8)))) (cF x0 x1 x2 x3 fc ff fs ft fu (fun j => nI (wy c t j)) fy fd po, R) 0 0 33 [some (.ref 4), some (.int (bI (smf c t i))), some (.int (nI i))] [] (cF x0 x1 x2 x3 fc ff fs ft fu fw fy fd po, R) := by
        intro fw h2
        have ih := ih (i + 1) fw (by omega) h2
        have e5 := h2 i (by omega)
        by_cases q : wy c t i = 0
        · rw [q] at e5
          have hs1 : smf c t (i + 1) = smf c t i := by (show (smf c t i || _) = _; simp [q])
          rw [hs1] at ih
          refine r_iload_n dX2_someFall_33 rfl ?_
          refine r_aload_n dX2_someFall_34 rfl ?_
          refine r_get dX2_someFall_35 fX2_27 rfl rfl ?_
          refine r_iload_n dX2_someFall_38 rfl ?_
          refine r_iald dX2_someFall_39 rfl rfl hi8 (by decide) ?_
          refine r_pc 40 rfl ?_
          refine r_topi _ e5 ?_
          refine r_if_eq 47 dX2_someFall_40 (by decide) (fun h40 => ?_) (fun h40 => ?_)
          · refine r_pc 47 rfl ?_
            refine r_iconst (v := (nI 0)) dX2_someFall_47 (by decide) ?_
            refine r_ior dX2_someFall_48 ?_
            refine r_topi (bI (smf c t i)) (by cases smf c t i <;> decide) ?_
            refine r_istore_n (ls' := [_, _, _]) dX2_someFall_49 (by decide) rfl ?_
            refine r_inc1 (ls' := [_, _, _]) dX2_someFall_50 (by decide) rfl rfl ?_
            refine r_goto 4 dX2_someFall_53 (by decide) ?_
            refine r_pc 4 rfl ?_
            exact ih
          · exact absurd rfl h40
        · have hs1 : smf c t (i + 1) = true := by (show (smf c t i || _) = _; simp [q])
          rw [hs1] at ih
          refine r_iload_n dX2_someFall_33 rfl ?_
          refine r_aload_n dX2_someFall_34 rfl ?_
          refine r_get dX2_someFall_35 fX2_27 rfl rfl ?_
          refine r_iload_n dX2_someFall_38 rfl ?_
          refine r_iald dX2_someFall_39 rfl rfl hi8 (by decide) ?_
          refine r_pc 40 rfl ?_
          refine r_topi _ e5 ?_
          refine r_if_eq 47 dX2_someFall_40 (by decide) (fun h40 => ?_) (fun h40 => ?_)
          · exact absurd (nI_z (by omega) h40) q
          · refine r_pc 43 rfl ?_
            refine r_iconst (v := (nI 1)) dX2_someFall_43 (by decide) ?_
            refine r_goto 48 dX2_someFall_44 (by decide) ?_
            refine r_ior dX2_someFall_48 ?_
            refine r_topi (bI true) (by cases smf c t i <;> decide) ?_
            refine r_istore_n (ls' := [_, _, _]) dX2_someFall_49 (by decide) rfl ?_
            refine r_inc1 (ls' := [_, _, _]) dX2_someFall_50 (by decide) rfl rfl ?_
            refine r_pc 53 rfl ?_
            refine r_goto 4 dX2_someFall_53 (by decide) ?_
            refine r_pc 4 rfl ?_
            exact ih
      cases hg : goesB c t i with
      | false =>
        have hw : nI (wy c t i) = nI 0 := by simp [wy, hg]
        refine r_iload_n dX2_someFall_4 rfl ?_
        refine r_bipush (v := (nI 8)) dX2_someFall_5 (by decide) ?_
        refine r_icmp_geN 56 dX2_someFall_7 (by decide) (by omega) (by omega) (fun h7 => ?_) (fun h7 => ?_)
        · exact absurd h7 (by omega)
        · refine r_pc 10 rfl ?_
          refine r_aload_n dX2_someFall_10 rfl ?_
          refine r_get dX2_someFall_11 fX2_27 rfl rfl ?_
          refine r_iload_n dX2_someFall_14 rfl ?_
          refine r_aload_n dX2_someFall_15 rfl ?_
          refine r_iload_n dX2_someFall_16 rfl ?_
          refine r_pc 17 rfl ?_
          refine r_cV dX2_someFall_17 (s_goesB hi8 hS ht hft) lX2_106 rfl rfl rfl (by decide) ⟨Nat.le_refl _, Nat.le_refl _⟩ (Nat.le_of_ble_eq_true rfl) ?_
          rw [hg]
          refine r_if_eq 31 dX2_someFall_20 (by decide) (fun h20 => ?_) (fun h20 => ?_)
          · refine r_pc 31 rfl ?_
            refine r_iconst (v := (nI 0)) dX2_someFall_31 (by decide) ?_
            refine r_iast (w2 := (cF _ _ _ _ _ _ _ _ _ _ _ _ _, _)) dX2_someFall_32 rfl rfl hi8 (by decide) rfl ?_
            refine r_pc 33 rfl ?_
            exact T _ (upd_lt h1 hw.symm)
          · exact absurd rfl h20
      | true =>
        have hw : nI (wy c t i) = nI (whyf c t i) := by simp [wy, hg]
        refine r_iload_n dX2_someFall_4 rfl ?_
        refine r_bipush (v := (nI 8)) dX2_someFall_5 (by decide) ?_
        refine r_icmp_geN 56 dX2_someFall_7 (by decide) (by omega) (by omega) (fun h7 => ?_) (fun h7 => ?_)
        · exact absurd h7 (by omega)
        · refine r_pc 10 rfl ?_
          refine r_aload_n dX2_someFall_10 rfl ?_
          refine r_get dX2_someFall_11 fX2_27 rfl rfl ?_
          refine r_iload_n dX2_someFall_14 rfl ?_
          refine r_aload_n dX2_someFall_15 rfl ?_
          refine r_iload_n dX2_someFall_16 rfl ?_
          refine r_pc 17 rfl ?_
          refine r_cV dX2_someFall_17 (s_goesB hi8 hS ht hft) lX2_106 rfl rfl rfl (by decide) ⟨Nat.le_refl _, Nat.le_refl _⟩ (Nat.le_of_ble_eq_true rfl) ?_
          rw [hg]
          refine r_if_eq 31 dX2_someFall_20 (by decide) (fun h20 => ?_) (fun h20 => ?_)
          · exact absurd h20 (by decide)
          · refine r_pc 23 rfl ?_
            refine r_aload_n dX2_someFall_23 rfl ?_
            refine r_iload_n dX2_someFall_24 rfl ?_
            refine r_cV dX2_someFall_25 (s_whyFalls hi8 hS hs ht hft) lX2_110 rfl rfl rfl (by decide) ⟨Nat.le_refl _, Nat.le_refl _⟩ (Nat.le_of_ble_eq_true rfl) ?_
            refine r_goto 32 dX2_someFall_28 (by decide) ?_
            refine r_iast (w2 := (cF _ _ _ _ _ _ _ _ _ _ _ _ _, _)) dX2_someFall_32 rfl rfl hi8 (by decide) rfl ?_
            refine r_pc 33 rfl ?_
            refine r_pc 33 rfl ?_
            exact T _ (upd_lt h1 hw.symm)
  subst hw0
  refine r_iconst (v := (nI 0)) dX2_someFall_0 (by decide) ?_
  refine r_istore_n (ls' := [_, _, _]) dX2_someFall_1 (by decide) rfl ?_
  refine r_iconst (v := (nI 0)) dX2_someFall_2 (by decide) ?_
  refine r_istore_n (ls' := [_, _, _]) dX2_someFall_3 (by decide) rfl ?_
  refine r_pc 4 rfl ?_
  exact L 8 0 _ (by omega) (fun j h => absurd h (by omega))
end F7
end
section
/-! ===== ring, and a whole call planned ===== -/
theorem pig : ∀ (n : Nat) (g : Nat → Nat), (∀ i, i < n → g i < n) → (∀ i, i < n → ∀ j, j < n → g i = g j → i = j) → ∀ d, d < n → ∃ i, i < n ∧ g i = d := by
  intro n
  induction n with
  | zero => intro g _ _ d hd; exact absurd hd (by omega)
  | succ n ih =>
    intro g hg hi d hd
    have hg' : ∀ i, i < n → (if g i = n then g n else g i) < n := by
      intro i h
      have h1 := hg i (by omega)
      have h2 := hg n (by omega)
      by_cases e : g i = n
      · rw [if_pos e]
        have : g n ≠ n := fun q => by have := hi i (by omega) n (by omega) (by rw [e, q]); omega
        omega
      · rw [if_neg e]; omega
    have hi' : ∀ i, i < n → ∀ j, j < n → (if g i = n then g n else g i) = (if g j = n then g n else g j) → i = j := by
      intro i h j h2 q
      by_cases e : g i = n
      · by_cases e2 : g j = n
        · exact hi i (by omega) j (by omega) (by rw [e, e2])
        · rw [if_pos e, if_neg e2] at q
          have := hi n (by omega) j (by omega) q
          omega
      · by_cases e2 : g j = n
        · rw [if_neg e, if_pos e2] at q
          have := hi i (by omega) n (by omega) q
          omega
        · rw [if_neg e, if_neg e2] at q
          exact hi i (by omega) j (by omega) q
    have S := ih (fun i => if g i = n then g n else g i) hg' hi'
    by_cases e1 : g n = d
    · exact ⟨n, by omega, e1⟩
    · by_cases e2 : d = n
      · have hm : g n < n := by have := hg n (by omega); omega
        obtain ⟨i, h1, h2⟩ := S (g n) hm
        by_cases e3 : g i = n
        · exact ⟨i, by omega, by rw [e3, e2]⟩
        · rw [if_neg e3] at h2
          have := hi i (by omega) n (by omega) h2
          omega
      · obtain ⟨i, h1, h2⟩ := S d (by omega)
        by_cases e3 : g i = n
        · rw [if_pos e3] at h2
          exact absurd h2 e1
        · rw [if_neg e3] at h2
          exact ⟨i, by omega, h2⟩
theorem who_some {c : Nat → Nat} : ∀ {n x d : Nat}, who c n x = some d → c d = x
  | 0, x, d, h => by simp [who] at h
  | n + 1, x, d, h => by
    unfold who at h
    split at h
    · cases h; assumption
    · exact who_some h
theorem who_none {c : Nat → Nat} : ∀ {n x : Nat}, who c n x = none → ∀ d, d < n → ¬ c d = x
  | 0, x, h, d, hd => absurd hd (by omega)
  | n + 1, x, h, d, hd => by
    unfold who at h
    split at h
    · cases h
    · rename_i hc
      by_cases e : d = n
      · subst e; exact hc
      · exact who_none h d (by omega)
def Inj (c : Nat → Nat) : Prop := ∀ i, i < 8 → ∀ j, j < 8 → c i = c j → i = j
theorem who_inj {c : Nat → Nat} (hi : Inj c) {d : Nat} (hd : d < 8) : who c 8 (c d) = some d := by
  cases h : who c 8 (c d) with
  | none => exact absurd rfl (who_none h d hd)
  | some e => rw [hi e (who_lt h) d hd (who_some h)]
theorem ringB_at {c : Nat → Nat} : ∀ {n : Nat}, ringB c n = true → ∀ i, i < n → ∃ d, who c 8 (HC i) = some d
  | 0, _, i, hi => absurd hi (by omega)
  | n + 1, h, i, hi => by
    have h1 : (ringB c n && (who c 8 (HC n)).isSome) = true := h
    rw [Bool.and_eq_true] at h1
    by_cases e : i = n
    · subst e
      exact Option.isSome_iff_exists.mp h1.2
    · exact ringB_at h1.1 i (by omega)
/-- in a ring everybody stands on one of the eight cells -/
theorem ring_all {c : Nat → Nat} (h : ringB c 8 = true) {d : Nat} (hd : d < 8) : ∃ i, i < 8 ∧ c d = HC i := by
  have h1 := ringB_at h
  have hg : ∀ i, i < 8 → who c 8 (HC i) = some ((who c 8 (HC i)).getD 0) := by
    intro i hi
    obtain ⟨e, he⟩ := h1 i hi
    rw [he]; rfl
  obtain ⟨i, hi, e⟩ := pig 8 (fun i => (who c 8 (HC i)).getD 0) (fun i hi => who_lt (hg i hi)) (fun i hi j hj q => HC_inj i hi j hj (by
    have a := who_some (hg i hi)
    have b := who_some (hg j hj)
    rw [q] at a
    exact a.symm.trans b)) d hd
  refine ⟨i, hi, ?_⟩
  have a := who_some (hg i hi)
  rw [e] at a
  exact a
def pl (x : Nat) : Nat := [9, 0, 1, 9, 7, 9, 9, 2, 6, 9, 9, 3, 9, 5, 4, 9].getD x 9
theorem pl_HC : ∀ i, i < 8 → pl (HC i) = i := by decide +kernel
def allB (p : Nat → Bool) : Nat → Bool
  | 0 => true
  | n + 1 => allB p n && p n
theorem mb_alls : ∀ b0 b1 b2 b3 b4 b5 b6 b7 : Bool, decide (mbI (fun j => [b0, b1, b2, b3, b4, b5, b6, b7].getD j false) 8 = nI 255) = allB (fun j => [b0, b1, b2, b3, b4, b5, b6, b7].getD j false) 8 := by decide +kernel
theorem allB_ext {p q : Nat → Bool} : ∀ n, (∀ j, j < n → p j = q j) → allB p n = allB q n
  | 0, _ => rfl
  | n + 1, h => by
    unfold allB
    rw [h n (by omega), allB_ext n (fun j hj => h j (by omega))]
theorem mb_all (p : Nat → Bool) : mbI p 8 = nI 255 ↔ allB p 8 = true := by
  have h := mb_alls (p 0) (p 1) (p 2) (p 3) (p 4) (p 5) (p 6) (p 7)
  rw [← mbI_ext 8 (mb_list p), ← allB_ext 8 (mb_list p)] at h
  rw [← h]
  simp
def rgT (c : Nat → Nat) (d : Nat) : Nat := HC ((pl (c d) + 1) % 8)
def rgU (c : Nat → Nat) (d : Nat) : Nat := HF ((pl (c d) + 1) % 8)
section F8
variable {x0 x1 x2 x3 : AE} {fc ff fs ft fu fw : Nat → Int32} {fy fd : Int32} {po : List AE}
variable {R : List AE} {c f : Nat → Nat}
theorem s_planRing0 {p : Nat → Bool} (hs : Sd fs c) (h : (allB p 8 && ringB c 8) = false) : Sem mX2_planRing 2 0 0 [.ref 4, .int (mbI p 8)] (cF x0 x1 x2 x3 fc ff fs ft fu fw fy fd po, R) none (cF x0 x1 x2 x3 fc ff fs ft fu fw (nI 5) fd po, R) := by
  refine sem_of (by decide) (Nat.le_of_ble_eq_true rfl) rfl ?_
  by_cases ha : allB p 8 = true
  · rw [ha, Bool.true_and] at h
    refine r_iload_n dX2_planRing_0 rfl ?_
    refine r_sipush (v := (nI 255)) dX2_planRing_1 (by decide) ?_
    refine r_icmp_ne 14 dX2_planRing_4 (by decide) (fun h4 => ?_) (fun h4 => ?_)
    · exact absurd ((mb_all p).mpr ha) h4
    · refine r_pc 7 rfl ?_
      refine r_aload_n dX2_planRing_7 rfl ?_
      refine r_cV dX2_planRing_8 (s_isRing hs) lX2_72 rfl rfl rfl (by decide) ⟨Nat.le_refl _, Nat.le_refl _⟩ (Nat.le_of_ble_eq_true rfl) ?_
      rw [h]
      refine r_if_ne 20 dX2_planRing_11 (by decide) (fun h11 => ?_) (fun h11 => ?_)
      · exact absurd rfl h11
      · refine r_pc 14 rfl ?_
        refine r_aload_n dX2_planRing_14 rfl ?_
        refine r_iconst (v := (nI 5)) dX2_planRing_15 (by decide) ?_
        refine r_put (w2 := (cF _ _ _ _ _ _ _ _ _ _ _ _ _, _)) dX2_planRing_16 fX2_30 rfl rfl (Nat.le_of_ble_eq_true rfl) (fun _ => rfl) (fun _ => rfl) rfl ?_
        exact r_vret dX2_planRing_19 rfl rfl rfl
  · refine r_iload_n dX2_planRing_0 rfl ?_
    refine r_sipush (v := (nI 255)) dX2_planRing_1 (by decide) ?_
    refine r_icmp_ne 14 dX2_planRing_4 (by decide) (fun h4 => ?_) (fun h4 => ?_)
    · refine r_pc 14 rfl ?_
      refine r_aload_n dX2_planRing_14 rfl ?_
      refine r_iconst (v := (nI 5)) dX2_planRing_15 (by decide) ?_
      refine r_put (w2 := (cF _ _ _ _ _ _ _ _ _ _ _ _ _, _)) dX2_planRing_16 fX2_30 rfl rfl (Nat.le_of_ble_eq_true rfl) (fun _ => rfl) (fun _ => rfl) rfl ?_
      exact r_vret dX2_planRing_19 rfl rfl rfl
    · exact absurd ((mb_all p).mp h4) ha
theorem s_planRing1 {p : Nat → Bool} (hs : Sd fs c) (hi_ : Inj c) (h : (allB p 8 && ringB c 8) = true) : Sem mX2_planRing 2 0 0 [.ref 4, .int (mbI p 8)] (cF x0 x1 x2 x3 fc ff fs ft fu fw fy fd po, R) none (cF x0 x1 x2 x3 fc ff fs (fun j => nI (rgT c j)) (fun j => nI (rgU c j)) fw fy (nI 8) po, R) := by
  refine sem_of (by decide) (Nat.le_of_ble_eq_true rfl) rfl ?_
  rw [Bool.and_eq_true] at h
  obtain ⟨ha, hr⟩ := h
  generalize hw0 : (cF x0 x1 x2 x3 fc ff fs ft fu fw fy fd po, R) = w0
  have L : ∀ (m i : Nat) (ft fu : Nat → Int32) (y3 y4 : Option Value), i + m = 8 → (∀ k, k < i → ∀ d, d < 8 → c d = HC k → ft d = nI (HC ((k + 1) % 8)) ∧ fu d = nI (HF ((k + 1) % 8))) → Rn mX2_planRing 2 0 0 w0 none (cF x0 x1 x2 x3 fc ff fs (fun j => nI (rgT c j)) (fun j => nI (rgU c j)) fw fy (nI 8) po, R) 0 0 22 [some (.ref 4), some (.int (mbI p 8)), some (.int (nI i)), y3, y4] [] (cF x0 x1 x2 x3 fc ff fs ft fu fw fy fd po, R) := by
    intro m
    induction m with
    | zero =>
      intro i ft fu y3 y4 hi h1
      have : i = 8 := by omega
      subst this
      refine r_weq _ (weq_F (ft' := fun j => nI (rgT c j)) (fu' := fun j => nI (rgU c j)) (fun _ _ => rfl) (fun _ _ => rfl) (fun _ _ => rfl) (fun j hj => ?_) (fun j hj => ?_) (fun _ _ => rfl)) ?_
      · obtain ⟨k, hk, e⟩ := ring_all hr hj
        rw [(h1 k hk j hj e).1]
        simp only [rgT, e, pl_HC k hk]
      · obtain ⟨k, hk, e⟩ := ring_all hr hj
        rw [(h1 k hk j hj e).2]
        simp only [rgU, e, pl_HC k hk]
      · refine r_iload_n dX2_planRing_22 rfl ?_
        refine r_bipush (v := (nI 8)) dX2_planRing_23 (by decide) ?_
        refine r_icmp_geN 82 dX2_planRing_25 (by decide) (by omega) (by omega) (fun h25 => ?_) (fun h25 => ?_)
        · refine r_pc 82 rfl ?_
          refine r_aload_n dX2_planRing_82 rfl ?_
          refine r_bipush (v := (nI 8)) dX2_planRing_83 (by decide) ?_
          refine r_put (w2 := (cF _ _ _ _ _ _ _ _ _ _ _ _ _, _)) dX2_planRing_85 fX2_34 rfl rfl (Nat.le_of_ble_eq_true rfl) (fun _ => rfl) (fun _ => rfl) rfl ?_
          exact r_vret dX2_planRing_88 rfl rfl rfl
        · exact absurd h25 (by omega)
    | succ m ih =>
      intro i ft fu y3 y4 hi h1
      have hi8 : i < 8 := by omega
      obtain ⟨d, hd⟩ := ringB_at hr i hi8
      have hd8 := who_lt hd
      have hn8 : (i + 1) % 8 < 8 := Nat.mod_lt _ (by decide)
      have e3 := hs (HC i) (HC_lt i hi8)
      rw [hd] at e3
      have ih := ih (i + 1) (upd ft d (nI (HC ((i + 1) % 8)))) (upd fu d (nI (HF ((i + 1) % 8)))) (some (.int (nI d))) (some (.int (nI ((i + 1) % 8)))) (by omega) (fun k hk e he q => by
        by_cases ek : k = i
        · subst ek
          have : e = d := hi_ e he d hd8 (by rw [q, who_some hd])
          subst this
          exact ⟨pk_us, pk_us⟩
        · have hne : ¬ e = d := fun z => by
            subst z
            exact ek (HC_inj k (by omega) i hi8 (by rw [← q, who_some hd]))
          rw [pk_un hne, pk_un hne]
          exact h1 k (by omega) e he q)
      refine r_iload_n dX2_planRing_22 rfl ?_
      refine r_bipush (v := (nI 8)) dX2_planRing_23 (by decide) ?_
      refine r_icmp_geN 82 dX2_planRing_25 (by decide) (by omega) (by omega) (fun h25 => ?_) (fun h25 => ?_)
      · exact absurd h25 (by omega)
      · refine r_pc 28 rfl ?_
        refine r_aload_n dX2_planRing_28 rfl ?_
        refine r_get dX2_planRing_29 fX2_18 rfl rfl ?_
        refine r_gets (a := 0) dX2_planRing_32 rfl sX2_75 ?_
        refine r_iload_n dX2_planRing_35 rfl ?_
        refine r_cald (v := nI (HC i)) 0 rfl (Or.inl ⟨dX2_planRing_36, rfl⟩) rfl hi8 (by decide) (HC_I i hi8) ?_
        refine r_pc 37 rfl ?_
        refine r_iald dX2_planRing_37 rfl rfl (HC_lt i hi8) (by decide) ?_
        refine r_topi (nI d) e3 ?_
        refine r_istore_n (ls' := [_, _, _, _, _]) dX2_planRing_38 (by decide) rfl ?_
        refine r_iload_n dX2_planRing_39 rfl ?_
        refine r_iconst (v := (nI 1)) dX2_planRing_40 (by decide) ?_
        refine r_iaddN dX2_planRing_41 ?_
        refine r_pc 42 rfl ?_
        refine r_bipush (v := (nI 8)) dX2_planRing_42 (by decide) ?_
        refine r_iremN dX2_planRing_44 (by omega) (by decide) (by decide) ?_
        refine r_istore (ls' := [_, _, _, _, _]) dX2_planRing_45 (by decide) rfl ?_
        refine r_iload_n dX2_planRing_47 rfl ?_
        refine r_iconst (v := (-1)) dX2_planRing_48 (by decide) ?_
        refine r_pc 49 rfl ?_
        refine r_icmp_eq 76 dX2_planRing_49 (by decide) (fun h49 => ?_) (fun h49 => ?_)
        · exact absurd h49 (nI_m1 (by omega))
        · refine r_pc 52 rfl ?_
          refine r_aload_n dX2_planRing_52 rfl ?_
          refine r_get dX2_planRing_53 fX2_21 rfl rfl ?_
          refine r_iload_n dX2_planRing_56 rfl ?_
          refine r_gets (a := 0) dX2_planRing_57 rfl sX2_75 ?_
          refine r_iload dX2_planRing_60 rfl ?_
          refine r_pc 62 rfl ?_
          refine r_cald (v := nI (HC ((i + 1) % 8))) 0 rfl (Or.inl ⟨dX2_planRing_62, rfl⟩) rfl hn8 (by decide) (HC_I _ hn8) ?_
          refine r_iast (w2 := (cF _ _ _ _ _ _ _ _ _ _ _ _ _, _)) dX2_planRing_63 rfl rfl hd8 (by decide) rfl ?_
          refine r_aload_n dX2_planRing_64 rfl ?_
          refine r_get dX2_planRing_65 fX2_24 rfl rfl ?_
          refine r_iload_n dX2_planRing_68 rfl ?_
          refine r_pc 69 rfl ?_
          refine r_gets (a := 1) dX2_planRing_69 rfl sX2_78 ?_
          refine r_iload dX2_planRing_72 rfl ?_
          refine r_cald (v := nI (HF ((i + 1) % 8))) 1 rfl (Or.inl ⟨dX2_planRing_74, rfl⟩) rfl hn8 (by decide) (HF_I _ hn8) ?_
          refine r_iast (w2 := (cF _ _ _ _ _ _ _ _ _ _ _ _ _, _)) dX2_planRing_75 rfl rfl hd8 (by decide) rfl ?_
          refine r_inc1 (ls' := [_, _, _, _, _]) dX2_planRing_76 (by decide) rfl rfl ?_
          refine r_pc 79 rfl ?_
          refine r_goto 22 dX2_planRing_79 (by decide) ?_
          refine r_pc 22 rfl ?_
          exact ih
  subst hw0
  refine r_iload_n dX2_planRing_0 rfl ?_
  refine r_sipush (v := (nI 255)) dX2_planRing_1 (by decide) ?_
  refine r_icmp_ne 14 dX2_planRing_4 (by decide) (fun h4 => ?_) (fun h4 => ?_)
  · exact absurd ((mb_all p).mpr ha) h4
  · refine r_pc 7 rfl ?_
    refine r_aload_n dX2_planRing_7 rfl ?_
    refine r_cV dX2_planRing_8 (s_isRing hs) lX2_72 rfl rfl rfl (by decide) ⟨Nat.le_refl _, Nat.le_refl _⟩ (Nat.le_of_ble_eq_true rfl) ?_
    rw [hr]
    refine r_if_ne 20 dX2_planRing_11 (by decide) (fun h11 => ?_) (fun h11 => ?_)
    · refine r_pc 20 rfl ?_
      refine r_iconst (v := (nI 0)) dX2_planRing_20 (by decide) ?_
      refine r_istore_n (ls' := [_, _, _, _, _]) dX2_planRing_21 (by decide) rfl ?_
      refine r_pc 22 rfl ?_
      exact L 8 0 _ _ _ _ (by omega) (fun k h => absurd h (by omega))
    · exact absurd h11 (by decide)
end F8
end
section
/-! ===== a call planned: what it comes to ===== -/
def noB (p : Nat → Bool) : Bool := allB (fun j => !p j) 8
theorem allB_at {p : Nat → Bool} : ∀ {n : Nat}, allB p n = true ↔ ∀ j, j < n → p j = true
  | 0 => ⟨fun _ j h => absurd h (by omega), fun _ => rfl⟩
  | n + 1 => by
    show (allB p n && p n) = true ↔ _
    rw [Bool.and_eq_true, allB_at (n := n)]
    constructor
    · intro h j hj
      by_cases e : j = n
      · subst e; exact h.2
      · exact h.1 j (by omega)
    · exact fun h => ⟨fun j hj => h j (by omega), h n (by omega)⟩
theorem noB_mb (p : Nat → Bool) : mbI p 8 = 0 ↔ noB p = true := by
  rw [mb_zero, noB, allB_at]
  exact ⟨fun h j hj => by rw [h j hj]; rfl, fun h j hj => by have := h j hj; simpa using this⟩
def rok (c f : Nat → Nat) (w : Nat) : Bool := allB (mnt c f w) 8 && ringB c 8
def PY (c f : Nat → Nat) (w g : Nat) : Nat := if noB (mnt c f w) = true then 4 else if g = 11 then (if rok c f w = true then 0 else 5) else if g ≤ 4 then 0 else if (pst c f g (mnt c f w) 8).2.2.2 = 0 then 4 else 0
def PT (c f : Nat → Nat) (w g : Nat) : Nat → Option Nat := if noB (mnt c f w) = true then (fun j => some (c j)) else if g = 11 then (if rok c f w = true then (fun j => some (rgT c j)) else (fun j => some (c j))) else if g ≤ 4 then eT c f (mnt c f w) g else (pst c f g (mnt c f w) 8).2.1
def PU (c f : Nat → Nat) (w g : Nat) : Nat → Nat := if noB (mnt c f w) = true then f else if g = 11 then (if rok c f w = true then rgU c else f) else if g ≤ 4 then eU f (mnt c f w) g else (pst c f g (mnt c f w) 8).2.2.1
def PN (c f : Nat → Nat) (w g : Nat) : Nat := if noB (mnt c f w) = true then 0 else if g = 11 then (if rok c f w = true then 8 else 0) else if g ≤ 4 then cnt (mnt c f w) 8 else (pst c f g (mnt c f w) 8).2.2.2
/-- falls are looked for -/
def fx (y g : Nat) : Bool := decide (y = 0) && (decide (g = 0) || (decide (g = 1) || decide (g = 10)))
def PW (c f : Nat → Nat) (w g : Nat) (j : Nat) : Nat := if fx (PY c f w g) g = true then wy c (PT c f w g) j else 0
def okx (c : Nat → Nat) (t : Nat → Option Nat) (y g : Nat) : Bool := decide (y = 0) && !(fx y g && smf c t 8)
def POK (c f : Nat → Nat) (w g : Nat) : Bool := okx c (PT c f w g) (PY c f w g) g
def Val (c f : Nat → Nat) : Prop := ∀ j, j < 8 → c j < 16 ∧ f j < 4
theorem up_Tl {t : Nat → Option Nat} {k : Nat} {v : Option Nat} (h : Tl t) (hv : ∀ x, v = some x → x < 16) : Tl (up t k v) := by
  intro j hj x hx
  unfold up at hx
  split at hx
  · exact hv x hx
  · exact h j hj x hx
theorem pst_Tl {c f : Nat → Nat} {g : Nat} {p : Nat → Bool} (hv : Val c f) : ∀ i, i ≤ 8 → Tl (pst c f g p i).2.1
  | 0, _ => fun j hj x hx => by cases hx; exact (hv j hj).1
  | i + 1, hi => by
    have ih := pst_Tl (g := g) (p := p) hv i (by omega)
    unfold pst
    split
    · exact ih
    · split
      · exact ih
      · rename_i e hm
        have he := mate_lt hm
        show Tl (pT c f g i e _)
        unfold pT
        split
        · refine up_Tl ih (fun x hx => ?_)
          have hl : fl c f i e < 8 := by unfold fl; split <;> omega
          exact nb_lt (hv _ hl).1 (hv _ hl).2 hx
        · exact up_Tl (up_Tl ih (fun x hx => by cases hx; exact (hv e he).1)) (fun x hx => by cases hx; exact (hv i (by omega)).1)
theorem PT_Tl {c f : Nat → Nat} {w g : Nat} (hv : Val c f) : Tl (PT c f w g) := by
  unfold PT
  split
  · exact fun j hj x hx => by cases hx; exact (hv j hj).1
  · split
    · split
      · exact fun j hj x hx => by cases hx; exact HC_lt _ (Nat.mod_lt _ (by decide))
      · exact fun j hj x hx => by cases hx; exact (hv j hj).1
    · split
      · intro j hj x hx
        unfold eT at hx
        split at hx
        · cases hx; exact (hv j hj).1
        · split at hx
          · exact nb_lt (hv j hj).1 (hv j hj).2 hx
          · exact nb_lt (hv j hj).1 (Nat.mod_lt _ (by decide)) hx
          · cases hx; exact (hv j hj).1
      · exact pst_Tl hv 8 (Nat.le_refl _)
theorem Sq_val {fc ff : Nat → Int32} {c f : Nat → Nat} (h : Sq fc ff c f) : Val c f := fun j hj => ⟨(h j hj).2.1, (h j hj).2.2.2⟩
section F9
variable {x0 x1 x2 x3 : AE} {fc ff fs ft fu fw : Nat → Int32} {fy fd : Int32} {po : List AE}
variable {R : List AE} {c f : Nat → Nat}
theorem s_plan {w g : Nat} (hw : w < 9) (hg : g < 12) (hS : Sq fc ff c f) (hs : Sd fs c) (hi : Inj c) : Sem mX2_plan 5 0 0 [.ref 4, .int (nI (100 * w + g))] (cF x0 x1 x2 x3 fc ff fs ft fu fw fy fd po, R) (some (.int (bI (POK c f w g)))) (cF x0 x1 x2 x3 fc ff fs (fun j => stI (PT c f w g j)) (fun j => nI (PU c f w g j)) (fun j => nI (PW c f w g j)) (nI (PY c f w g)) (nI (PN c f w g)) po, R) := by
  refine sem_of (by decide) (Nat.le_of_ble_eq_true rfl) rfl ?_
  have hval := Sq_val hS
  have hr : (100 * w + g) % 100 = g := by omega
  have hq : (100 * w + g) / 100 = w := by omega
  generalize hw0 : (cF x0 x1 x2 x3 fc ff fs ft fu fw fy fd po, R) = w0
  have T : ∀ (t : Nat → Option Nat) (u : Nat → Nat) (n y : Nat), Tl t → y < 10 → Rn mX2_plan 5 0 0 w0 (some (.int (bI (okx c t y g)))) (cF x0 x1 x2 x3 fc ff fs (fun j => stI (t j)) (fun j => nI (u j)) (fun j => nI (if fx y g = true then wy c t j else 0)) (nI y) (nI n) po, R) 0 0 63 [some (.ref 4), some (.int (nI (100 * w + g))), some (.int (nI g)), some (.int (mbI (mnt c f w) 8)), none] [] (cF x0 x1 x2 x3 fc ff fs (fun j => stI (t j)) (fun j => nI (u j)) (fun _ => nI 0) (nI y) (nI n) po, R) := by
    intro t u n y ht hy
    by_cases hy0 : y = 0
    · by_cases hmf : g = 0 ∨ g = 1 ∨ g = 10
      · have hf : fx y g = true := by
          rcases hmf with rfl | rfl | rfl <;> simp [fx, hy0]
        have ho : okx c t y g = !smf c t 8 := by rw [okx, hf]; simp [hy0]
        simp only [hf, if_true, ho]
        subst hy0
        have G : Rn mX2_plan 5 0 0 w0 (some (.int (bI (!smf c t 8)))) (cF x0 x1 x2 x3 fc ff fs (fun j => stI (t j)) (fun j => nI (u j)) (fun j => nI (wy c t j)) (nI 0) (nI n) po, R) 0 0 85 [some (.ref 4), some (.int (nI (100 * w + g))), some (.int (nI g)), some (.int (mbI (mnt c f w) 8)), some (.int (nI 1))] [] (cF x0 x1 x2 x3 fc ff fs (fun j => stI (t j)) (fun j => nI (u j)) (fun _ => nI 0) (nI 0) (nI n) po, R) := by
          cases hsm : smf c t 8 with
          | true =>
            refine r_aload_n dX2_plan_85 rfl ?_
            refine r_get dX2_plan_86 fX2_30 rfl rfl ?_
            refine r_if_ne 108 dX2_plan_89 (by decide) (fun h89 => ?_) (fun h89 => ?_)
            · exact absurd rfl h89
            · refine r_pc 92 rfl ?_
              refine r_iload dX2_plan_92 rfl ?_
              refine r_if_eq 104 dX2_plan_94 (by decide) (fun h94 => ?_) (fun h94 => ?_)
              · exact absurd h94 (by decide)
              · refine r_pc 97 rfl ?_
                refine r_aload_n dX2_plan_97 rfl ?_
                refine r_cV dX2_plan_98 (s_someFall hS hs ht (fun _ _ => rfl)) lX2_68 rfl rfl rfl (by decide) ⟨Nat.le_refl _, Nat.le_refl _⟩ (Nat.le_of_ble_eq_true rfl) ?_
                rw [hsm]
                refine r_if_ne 108 dX2_plan_101 (by decide) (fun h101 => ?_) (fun h101 => ?_)
                · refine r_pc 108 rfl ?_
                  refine r_iconst (v := (nI 0)) dX2_plan_108 (by decide) ?_
                  exact r_zret dX2_plan_109 rfl rfl rfl rfl
                · exact absurd h101 (by decide)
          | false =>
            refine r_aload_n dX2_plan_85 rfl ?_
            refine r_get dX2_plan_86 fX2_30 rfl rfl ?_
            refine r_if_ne 108 dX2_plan_89 (by decide) (fun h89 => ?_) (fun h89 => ?_)
            · exact absurd rfl h89
            · refine r_pc 92 rfl ?_
              refine r_iload dX2_plan_92 rfl ?_
              refine r_if_eq 104 dX2_plan_94 (by decide) (fun h94 => ?_) (fun h94 => ?_)
              · exact absurd h94 (by decide)
              · refine r_pc 97 rfl ?_
                refine r_aload_n dX2_plan_97 rfl ?_
                refine r_cV dX2_plan_98 (s_someFall hS hs ht (fun _ _ => rfl)) lX2_68 rfl rfl rfl (by decide) ⟨Nat.le_refl _, Nat.le_refl _⟩ (Nat.le_of_ble_eq_true rfl) ?_
                rw [hsm]
                refine r_if_ne 108 dX2_plan_101 (by decide) (fun h101 => ?_) (fun h101 => ?_)
                · exact absurd rfl h101
                · refine r_pc 104 rfl ?_
                  refine r_iconst (v := (nI 1)) dX2_plan_104 (by decide) ?_
                  refine r_goto 109 dX2_plan_105 (by decide) ?_
                  exact r_zret dX2_plan_109 rfl rfl rfl rfl
        refine r_iload_n dX2_plan_63 rfl ?_
        refine r_if_eq 78 dX2_plan_64 (by decide) (fun h64 => ?_) (fun h64 => ?_)
        · refine r_pc 78 rfl ?_
          refine r_iconst (v := (nI 1)) dX2_plan_78 (by decide) ?_
          refine r_goto 83 dX2_plan_79 (by decide) ?_
          refine r_istore (ls' := [_, _, _, _, _]) dX2_plan_83 (by decide) rfl ?_
          refine r_pc 85 rfl ?_
          exact G
        · refine r_pc 67 rfl ?_
          refine r_iload_n dX2_plan_67 rfl ?_
          refine r_iconst (v := (nI 1)) dX2_plan_68 (by decide) ?_
          refine r_icmp_eqN 78 dX2_plan_69 (by decide) (by omega) (by omega) (fun h69 => ?_) (fun h69 => ?_)
          · refine r_pc 78 rfl ?_
            refine r_iconst (v := (nI 1)) dX2_plan_78 (by decide) ?_
            refine r_goto 83 dX2_plan_79 (by decide) ?_
            refine r_istore (ls' := [_, _, _, _, _]) dX2_plan_83 (by decide) rfl ?_
            refine r_pc 85 rfl ?_
            exact G
          · refine r_pc 72 rfl ?_
            refine r_iload_n dX2_plan_72 rfl ?_
            refine r_bipush (v := (nI 10)) dX2_plan_73 (by decide) ?_
            refine r_icmp_neN 82 dX2_plan_75 (by decide) (by omega) (by omega) (fun h75 => ?_) (fun h75 => ?_)
            · exact absurd hmf (fun z => by rcases z with z | z | z; (exact h64 (by rw [z]; rfl)); (exact h69 z); (exact h75 z))
            · refine r_pc 78 rfl ?_
              refine r_iconst (v := (nI 1)) dX2_plan_78 (by decide) ?_
              refine r_goto 83 dX2_plan_79 (by decide) ?_
              refine r_istore (ls' := [_, _, _, _, _]) dX2_plan_83 (by decide) rfl ?_
              refine r_pc 85 rfl ?_
              exact G
      · have hf : fx y g = false := by simp [fx]; omega
        have ho : okx c t y g = true := by rw [okx, hf]; simp [hy0]
        simp only [hf, ho, Bool.false_eq_true, if_false]
        subst hy0
        refine r_iload_n dX2_plan_63 rfl ?_
        refine r_if_eq 78 dX2_plan_64 (by decide) (fun h64 => ?_) (fun h64 => ?_)
        · exact absurd (Or.inl (nI_z (by omega) h64)) hmf
        · refine r_pc 67 rfl ?_
          refine r_iload_n dX2_plan_67 rfl ?_
          refine r_iconst (v := (nI 1)) dX2_plan_68 (by decide) ?_
          refine r_icmp_eqN 78 dX2_plan_69 (by decide) (by omega) (by omega) (fun h69 => ?_) (fun h69 => ?_)
          · exact absurd (Or.inr (Or.inl h69)) hmf
          · refine r_pc 72 rfl ?_
            refine r_iload_n dX2_plan_72 rfl ?_
            refine r_bipush (v := (nI 10)) dX2_plan_73 (by decide) ?_
            refine r_icmp_neN 82 dX2_plan_75 (by decide) (by omega) (by omega) (fun h75 => ?_) (fun h75 => ?_)
            · refine r_pc 82 rfl ?_
              refine r_iconst (v := (nI 0)) dX2_plan_82 (by decide) ?_
              refine r_istore (ls' := [_, _, _, _, _]) dX2_plan_83 (by decide) rfl ?_
              refine r_aload_n dX2_plan_85 rfl ?_
              refine r_get dX2_plan_86 fX2_30 rfl rfl ?_
              refine r_if_ne 108 dX2_plan_89 (by decide) (fun h89 => ?_) (fun h89 => ?_)
              · exact absurd rfl h89
              · refine r_pc 92 rfl ?_
                refine r_iload dX2_plan_92 rfl ?_
                refine r_if_eq 104 dX2_plan_94 (by decide) (fun h94 => ?_) (fun h94 => ?_)
                · refine r_pc 104 rfl ?_
                  refine r_iconst (v := (nI 1)) dX2_plan_104 (by decide) ?_
                  refine r_goto 109 dX2_plan_105 (by decide) ?_
                  exact r_zret dX2_plan_109 rfl rfl rfl rfl
                · first | exact absurd h94 (by decide) | exact absurd (by decide) h94
            · exact absurd (Or.inr (Or.inr h75)) hmf
    · have hf : fx y g = false := by simp [fx, hy0]
      have ho : okx c t y g = false := by simp [okx, hy0]
      simp only [hf, ho, Bool.false_eq_true, if_false]
      refine r_iload_n dX2_plan_63 rfl ?_
      refine r_if_eq 78 dX2_plan_64 (by decide) (fun h64 => ?_) (fun h64 => ?_)
      · refine r_pc 78 rfl ?_
        refine r_iconst (v := (nI 1)) dX2_plan_78 (by decide) ?_
        refine r_goto 83 dX2_plan_79 (by decide) ?_
        refine r_istore (ls' := [_, _, _, _, _]) dX2_plan_83 (by decide) rfl ?_
        refine r_aload_n dX2_plan_85 rfl ?_
        refine r_get dX2_plan_86 fX2_30 rfl rfl ?_
        refine r_pc 89 rfl ?_
        refine r_if_ne 108 dX2_plan_89 (by decide) (fun h89 => ?_) (fun h89 => ?_)
        · refine r_pc 108 rfl ?_
          refine r_iconst (v := (nI 0)) dX2_plan_108 (by decide) ?_
          exact r_zret dX2_plan_109 rfl rfl rfl rfl
        · exact absurd (nI_z (by omega) h89) hy0
      · refine r_pc 67 rfl ?_
        refine r_iload_n dX2_plan_67 rfl ?_
        refine r_iconst (v := (nI 1)) dX2_plan_68 (by decide) ?_
        refine r_icmp_eqN 78 dX2_plan_69 (by decide) (by omega) (by omega) (fun h69 => ?_) (fun h69 => ?_)
        · refine r_pc 78 rfl ?_
          refine r_iconst (v := (nI 1)) dX2_plan_78 (by decide) ?_
          refine r_goto 83 dX2_plan_79 (by decide) ?_
          refine r_istore (ls' := [_, _, _, _, _]) dX2_plan_83 (by decide) rfl ?_
          refine r_aload_n dX2_plan_85 rfl ?_
          refine r_get dX2_plan_86 fX2_30 rfl rfl ?_
          refine r_pc 89 rfl ?_
          refine r_if_ne 108 dX2_plan_89 (by decide) (fun h89 => ?_) (fun h89 => ?_)
          · refine r_pc 108 rfl ?_
            refine r_iconst (v := (nI 0)) dX2_plan_108 (by decide) ?_
            exact r_zret dX2_plan_109 rfl rfl rfl rfl
          · exact absurd (nI_z (by omega) h89) hy0
        · refine r_pc 72 rfl ?_
          refine r_iload_n dX2_plan_72 rfl ?_
          refine r_bipush (v := (nI 10)) dX2_plan_73 (by decide) ?_
          refine r_icmp_neN 82 dX2_plan_75 (by decide) (by omega) (by omega) (fun h75 => ?_) (fun h75 => ?_)
          · refine r_pc 82 rfl ?_
            refine r_iconst (v := (nI 0)) dX2_plan_82 (by decide) ?_
            refine r_istore (ls' := [_, _, _, _, _]) dX2_plan_83 (by decide) rfl ?_
            refine r_aload_n dX2_plan_85 rfl ?_
            refine r_get dX2_plan_86 fX2_30 rfl rfl ?_
            refine r_if_ne 108 dX2_plan_89 (by decide) (fun h89 => ?_) (fun h89 => ?_)
            · refine r_pc 108 rfl ?_
              refine r_iconst (v := (nI 0)) dX2_plan_108 (by decide) ?_
              exact r_zret dX2_plan_109 rfl rfl rfl rfl
            · exact absurd (nI_z (by omega) h89) hy0
          · refine r_pc 78 rfl ?_
            refine r_iconst (v := (nI 1)) dX2_plan_78 (by decide) ?_
            refine r_goto 83 dX2_plan_79 (by decide) ?_
            refine r_istore (ls' := [_, _, _, _, _]) dX2_plan_83 (by decide) rfl ?_
            refine r_aload_n dX2_plan_85 rfl ?_
            refine r_get dX2_plan_86 fX2_30 rfl rfl ?_
            refine r_pc 89 rfl ?_
            refine r_if_ne 108 dX2_plan_89 (by decide) (fun h89 => ?_) (fun h89 => ?_)
            · refine r_pc 108 rfl ?_
              refine r_iconst (v := (nI 0)) dX2_plan_108 (by decide) ?_
              exact r_zret dX2_plan_109 rfl rfl rfl rfl
            · exact absurd (nI_z (by omega) h89) hy0
  subst hw0
  unfold POK PW
  have T := fun (t : Nat → Option Nat) (u : Nat → Nat) (n y : Nat) (e1 : PT c f w g = t) (e2 : PU c f w g = u) (e3 : PN c f w g = n) (e4 : PY c f w g = y) (ht : Tl t) (hy : y < 10) => by
    have := T t u n y ht hy
    rw [← e1, ← e2, ← e3, ← e4] at this
    exact this
  by_cases hno : noB (mnt c f w) = true
  · have e1 : PT c f w g = (fun j => some (c j)) := by simp only [PT, if_pos hno]
    have e2 : PU c f w g = f := by simp only [PU, if_pos hno]
    have e3 : PN c f w g = 0 := by simp only [PN, if_pos hno]
    have e4 : PY c f w g = 4 := by simp only [PY, if_pos hno]
    have e5 : okx c (PT c f w g) (PY c f w g) g = false := by simp [okx, e4]
    have e6 : fx (PY c f w g) g = false := by simp [fx, e4]
    rw [e5]
    simp only [e6, e1, e2, e3, e4, Bool.false_eq_true, if_false]
    refine r_iload_n dX2_plan_0 rfl ?_
    refine r_bipush (v := (nI 100)) dX2_plan_1 (by decide) ?_
    refine r_iremN dX2_plan_3 (by omega) (by decide) (by decide) ?_
    rw [hr]
    refine r_istore_n (ls' := [_, _, _, _, _]) dX2_plan_4 (by decide) rfl ?_
    refine r_aload_n dX2_plan_5 rfl ?_
    refine r_pc 6 rfl ?_
    refine r_iload_n dX2_plan_6 rfl ?_
    refine r_bipush (v := (nI 100)) dX2_plan_7 (by decide) ?_
    refine r_idivN dX2_plan_9 (by omega) (by decide) (by decide) ?_
    rw [hq]
    refine r_cV dX2_plan_10 (s_meantBy hw hS hs) lX2_50 rfl rfl rfl (by decide) ⟨Nat.le_refl _, Nat.le_refl _⟩ (Nat.le_of_ble_eq_true rfl) ?_
    refine r_istore_n (ls' := [_, _, _, _, _]) dX2_plan_13 (by decide) rfl ?_
    refine r_pc 14 rfl ?_
    refine r_aload_n dX2_plan_14 rfl ?_
    refine r_cVv dX2_plan_15 s_startPlan lX2_54 rfl rfl rfl (by decide) ⟨Nat.le_refl _, Nat.le_refl _⟩ (Nat.le_of_ble_eq_true rfl) ?_
    refine r_iload_n dX2_plan_18 rfl ?_
    refine r_if_ne 29 dX2_plan_19 (by decide) (fun h19 => ?_) (fun h19 => ?_)
    · exact absurd ((noB_mb _).mpr hno) h19
    · refine r_pc 22 rfl ?_
      refine r_weq _ (weq_F (ft' := fun j => stI (some (c j))) (fu' := fun j => nI (f j)) (fun _ _ => rfl) (fun _ _ => rfl) (fun _ _ => rfl) (fun j hj => (hS j hj).1) (fun j hj => (hS j hj).2.2.1) (fun _ _ => rfl)) ?_
      refine r_aload_n dX2_plan_22 rfl ?_
      refine r_iconst (v := (nI 4)) dX2_plan_23 (by decide) ?_
      refine r_put (w2 := (cF _ _ _ _ _ _ _ _ _ _ _ _ _, _)) dX2_plan_24 fX2_30 rfl rfl (Nat.le_of_ble_eq_true rfl) (fun _ => rfl) (fun _ => rfl) rfl ?_
      refine r_iconst (v := (nI 0)) dX2_plan_27 (by decide) ?_
      exact r_zret dX2_plan_28 rfl rfl rfl rfl
  · have hz : ¬ mbI (mnt c f w) 8 = 0 := fun q => hno ((noB_mb _).mp q)
    by_cases h11 : g = 11
    · cases hk : rok c f w with
      | true =>
        have e1 : PT c f w g = (fun j => some (rgT c j)) := by simp only [PT, if_neg hno, if_pos h11, hk, if_true]
        have e2 : PU c f w g = rgU c := by simp only [PU, if_neg hno, if_pos h11, hk, if_true]
        have e3 : PN c f w g = 8 := by simp only [PN, if_neg hno, if_pos h11, hk, if_true]
        have e4 : PY c f w g = 0 := by simp only [PY, if_neg hno, if_pos h11, hk, if_true]
        have T := T _ _ _ _ e1 e2 e3 e4 (by rw [← e1]; exact PT_Tl hval) (by decide)
        refine r_iload_n dX2_plan_0 rfl ?_
        refine r_bipush (v := (nI 100)) dX2_plan_1 (by decide) ?_
        refine r_iremN dX2_plan_3 (by omega) (by decide) (by decide) ?_
        rw [hr]
        refine r_istore_n (ls' := [_, _, _, _, _]) dX2_plan_4 (by decide) rfl ?_
        refine r_aload_n dX2_plan_5 rfl ?_
        refine r_pc 6 rfl ?_
        refine r_iload_n dX2_plan_6 rfl ?_
        refine r_bipush (v := (nI 100)) dX2_plan_7 (by decide) ?_
        refine r_idivN dX2_plan_9 (by omega) (by decide) (by decide) ?_
        rw [hq]
        refine r_cV dX2_plan_10 (s_meantBy hw hS hs) lX2_50 rfl rfl rfl (by decide) ⟨Nat.le_refl _, Nat.le_refl _⟩ (Nat.le_of_ble_eq_true rfl) ?_
        refine r_istore_n (ls' := [_, _, _, _, _]) dX2_plan_13 (by decide) rfl ?_
        refine r_pc 14 rfl ?_
        refine r_aload_n dX2_plan_14 rfl ?_
        refine r_cVv dX2_plan_15 s_startPlan lX2_54 rfl rfl rfl (by decide) ⟨Nat.le_refl _, Nat.le_refl _⟩ (Nat.le_of_ble_eq_true rfl) ?_
        refine r_iload_n dX2_plan_18 rfl ?_
        refine r_if_ne 29 dX2_plan_19 (by decide) (fun h19 => ?_) (fun h19 => ?_)
        · refine r_pc 29 rfl ?_
          refine r_iload_n dX2_plan_29 rfl ?_
          refine r_bipush (v := (nI 11)) dX2_plan_30 (by decide) ?_
          refine r_icmp_neN 43 dX2_plan_32 (by decide) (by omega) (by omega) (fun h32 => ?_) (fun h32 => ?_)
          · exact absurd h11 h32
          · refine r_pc 35 rfl ?_
            refine r_aload_n dX2_plan_35 rfl ?_
            refine r_iload_n dX2_plan_36 rfl ?_
            refine r_cVv dX2_plan_37 (s_planRing1 hs hi hk) lX2_57 rfl rfl rfl (by decide) ⟨Nat.le_refl _, Nat.le_refl _⟩ (Nat.le_of_ble_eq_true rfl) ?_
            refine r_goto 63 dX2_plan_40 (by decide) ?_
            refine r_pc 63 rfl ?_
            rw [e1, e2, e3, e4] at T ⊢
            exact T
        · exact absurd h19 hz
      | false =>
        have e1 : PT c f w g = (fun j => some (c j)) := by simp only [PT, if_neg hno, if_pos h11, hk, Bool.false_eq_true, if_false]
        have e2 : PU c f w g = f := by simp only [PU, if_neg hno, if_pos h11, hk, Bool.false_eq_true, if_false]
        have e3 : PN c f w g = 0 := by simp only [PN, if_neg hno, if_pos h11, hk, Bool.false_eq_true, if_false]
        have e4 : PY c f w g = 5 := by simp only [PY, if_neg hno, if_pos h11, hk, Bool.false_eq_true, if_false]
        have T := T _ _ _ _ e1 e2 e3 e4 (by rw [← e1]; exact PT_Tl hval) (by decide)
        refine r_iload_n dX2_plan_0 rfl ?_
        refine r_bipush (v := (nI 100)) dX2_plan_1 (by decide) ?_
        refine r_iremN dX2_plan_3 (by omega) (by decide) (by decide) ?_
        rw [hr]
        refine r_istore_n (ls' := [_, _, _, _, _]) dX2_plan_4 (by decide) rfl ?_
        refine r_aload_n dX2_plan_5 rfl ?_
        refine r_pc 6 rfl ?_
        refine r_iload_n dX2_plan_6 rfl ?_
        refine r_bipush (v := (nI 100)) dX2_plan_7 (by decide) ?_
        refine r_idivN dX2_plan_9 (by omega) (by decide) (by decide) ?_
        rw [hq]
        refine r_cV dX2_plan_10 (s_meantBy hw hS hs) lX2_50 rfl rfl rfl (by decide) ⟨Nat.le_refl _, Nat.le_refl _⟩ (Nat.le_of_ble_eq_true rfl) ?_
        refine r_istore_n (ls' := [_, _, _, _, _]) dX2_plan_13 (by decide) rfl ?_
        refine r_pc 14 rfl ?_
        refine r_aload_n dX2_plan_14 rfl ?_
        refine r_cVv dX2_plan_15 s_startPlan lX2_54 rfl rfl rfl (by decide) ⟨Nat.le_refl _, Nat.le_refl _⟩ (Nat.le_of_ble_eq_true rfl) ?_
        refine r_iload_n dX2_plan_18 rfl ?_
        refine r_if_ne 29 dX2_plan_19 (by decide) (fun h19 => ?_) (fun h19 => ?_)
        · refine r_pc 29 rfl ?_
          refine r_iload_n dX2_plan_29 rfl ?_
          refine r_bipush (v := (nI 11)) dX2_plan_30 (by decide) ?_
          refine r_icmp_neN 43 dX2_plan_32 (by decide) (by omega) (by omega) (fun h32 => ?_) (fun h32 => ?_)
          · exact absurd h11 h32
          · refine r_pc 35 rfl ?_
            refine r_aload_n dX2_plan_35 rfl ?_
            refine r_iload_n dX2_plan_36 rfl ?_
            refine r_cVv dX2_plan_37 (s_planRing0 hs hk) lX2_57 rfl rfl rfl (by decide) ⟨Nat.le_refl _, Nat.le_refl _⟩ (Nat.le_of_ble_eq_true rfl) ?_
            refine r_goto 63 dX2_plan_40 (by decide) ?_
            refine r_pc 63 rfl ?_
            rw [e1, e2, e3, e4] at T ⊢
            refine r_weq _ (weq_F (ft' := fun j => stI (some (c j))) (fu' := fun j => nI (f j)) (fun _ _ => rfl) (fun _ _ => rfl) (fun _ _ => rfl) (fun j hj => (hS j hj).1) (fun j hj => (hS j hj).2.2.1) (fun _ _ => rfl)) ?_
            exact T
        · exact absurd h19 hz
    · by_cases h4 : g ≤ 4
      · have e1 : PT c f w g = eT c f (mnt c f w) g := by simp only [PT, if_neg hno, if_neg h11, if_pos h4]
        have e2 : PU c f w g = eU f (mnt c f w) g := by simp only [PU, if_neg hno, if_neg h11, if_pos h4]
        have e3 : PN c f w g = cnt (mnt c f w) 8 := by simp only [PN, if_neg hno, if_neg h11, if_pos h4]
        have e4 : PY c f w g = 0 := by simp only [PY, if_neg hno, if_neg h11, if_pos h4]
        have T := T _ _ _ _ e1 e2 e3 e4 (by rw [← e1]; exact PT_Tl hval) (by decide)
        refine r_iload_n dX2_plan_0 rfl ?_
        refine r_bipush (v := (nI 100)) dX2_plan_1 (by decide) ?_
        refine r_iremN dX2_plan_3 (by omega) (by decide) (by decide) ?_
        rw [hr]
        refine r_istore_n (ls' := [_, _, _, _, _]) dX2_plan_4 (by decide) rfl ?_
        refine r_aload_n dX2_plan_5 rfl ?_
        refine r_pc 6 rfl ?_
        refine r_iload_n dX2_plan_6 rfl ?_
        refine r_bipush (v := (nI 100)) dX2_plan_7 (by decide) ?_
        refine r_idivN dX2_plan_9 (by omega) (by decide) (by decide) ?_
        rw [hq]
        refine r_cV dX2_plan_10 (s_meantBy hw hS hs) lX2_50 rfl rfl rfl (by decide) ⟨Nat.le_refl _, Nat.le_refl _⟩ (Nat.le_of_ble_eq_true rfl) ?_
        refine r_istore_n (ls' := [_, _, _, _, _]) dX2_plan_13 (by decide) rfl ?_
        refine r_pc 14 rfl ?_
        refine r_aload_n dX2_plan_14 rfl ?_
        refine r_cVv dX2_plan_15 s_startPlan lX2_54 rfl rfl rfl (by decide) ⟨Nat.le_refl _, Nat.le_refl _⟩ (Nat.le_of_ble_eq_true rfl) ?_
        refine r_iload_n dX2_plan_18 rfl ?_
        refine r_if_ne 29 dX2_plan_19 (by decide) (fun h19 => ?_) (fun h19 => ?_)
        · refine r_pc 29 rfl ?_
          refine r_iload_n dX2_plan_29 rfl ?_
          refine r_bipush (v := (nI 11)) dX2_plan_30 (by decide) ?_
          refine r_icmp_neN 43 dX2_plan_32 (by decide) (by omega) (by omega) (fun h32 => ?_) (fun h32 => ?_)
          · refine r_pc 43 rfl ?_
            refine r_iload_n dX2_plan_43 rfl ?_
            refine r_iconst (v := (nI 4)) dX2_plan_44 (by decide) ?_
            refine r_icmp_gtN 57 dX2_plan_45 (by decide) (by omega) (by omega) (fun h45 => ?_) (fun h45 => ?_)
            · exact absurd h45 (by omega)
            · refine r_pc 48 rfl ?_
              refine r_aload_n dX2_plan_48 rfl ?_
              refine r_iload_n dX2_plan_49 rfl ?_
              refine r_iload_n dX2_plan_50 rfl ?_
              refine r_cVv dX2_plan_51 (s_planEach (by omega) hS (fun j hj => (hS j hj).1) (fun j hj => (hS j hj).2.2.1) rfl) lX2_61 rfl rfl rfl (by decide) ⟨Nat.le_refl _, Nat.le_refl _⟩ (Nat.le_of_ble_eq_true rfl) ?_
              refine r_goto 63 dX2_plan_54 (by decide) ?_
              refine r_pc 63 rfl ?_
              rw [e1, e2, e3, e4] at T ⊢
              exact T
          · exact absurd h32 h11
        · exact absurd h19 hz
      · have e1 : PT c f w g = (pst c f g (mnt c f w) 8).2.1 := by simp only [PT, if_neg hno, if_neg h11, if_neg h4]
        have e2 : PU c f w g = (pst c f g (mnt c f w) 8).2.2.1 := by simp only [PU, if_neg hno, if_neg h11, if_neg h4]
        have e3 : PN c f w g = (pst c f g (mnt c f w) 8).2.2.2 := by simp only [PN, if_neg hno, if_neg h11, if_neg h4]
        have e4 : PY c f w g = (if (pst c f g (mnt c f w) 8).2.2.2 = 0 then 4 else 0) := by simp only [PY, if_neg hno, if_neg h11, if_neg h4]
        have T := T _ _ _ _ e1 e2 e3 e4 (by rw [← e1]; exact PT_Tl hval) (by split <;> decide)
        have e7 : (if (pst c f g (mnt c f w) 8).2.2.2 = 0 then nI 4 else nI 0) = nI (if (pst c f g (mnt c f w) 8).2.2.2 = 0 then 4 else 0) := by split <;> rfl
        refine r_iload_n dX2_plan_0 rfl ?_
        refine r_bipush (v := (nI 100)) dX2_plan_1 (by decide) ?_
        refine r_iremN dX2_plan_3 (by omega) (by decide) (by decide) ?_
        rw [hr]
        refine r_istore_n (ls' := [_, _, _, _, _]) dX2_plan_4 (by decide) rfl ?_
        refine r_aload_n dX2_plan_5 rfl ?_
        refine r_pc 6 rfl ?_
        refine r_iload_n dX2_plan_6 rfl ?_
        refine r_bipush (v := (nI 100)) dX2_plan_7 (by decide) ?_
        refine r_idivN dX2_plan_9 (by omega) (by decide) (by decide) ?_
        rw [hq]
        refine r_cV dX2_plan_10 (s_meantBy hw hS hs) lX2_50 rfl rfl rfl (by decide) ⟨Nat.le_refl _, Nat.le_refl _⟩ (Nat.le_of_ble_eq_true rfl) ?_
        refine r_istore_n (ls' := [_, _, _, _, _]) dX2_plan_13 (by decide) rfl ?_
        refine r_pc 14 rfl ?_
        refine r_aload_n dX2_plan_14 rfl ?_
        refine r_cVv dX2_plan_15 s_startPlan lX2_54 rfl rfl rfl (by decide) ⟨Nat.le_refl _, Nat.le_refl _⟩ (Nat.le_of_ble_eq_true rfl) ?_
        refine r_iload_n dX2_plan_18 rfl ?_
        refine r_if_ne 29 dX2_plan_19 (by decide) (fun h19 => ?_) (fun h19 => ?_)
        · refine r_pc 29 rfl ?_
          refine r_iload_n dX2_plan_29 rfl ?_
          refine r_bipush (v := (nI 11)) dX2_plan_30 (by decide) ?_
          refine r_icmp_neN 43 dX2_plan_32 (by decide) (by omega) (by omega) (fun h32 => ?_) (fun h32 => ?_)
          · refine r_pc 43 rfl ?_
            refine r_iload_n dX2_plan_43 rfl ?_
            refine r_iconst (v := (nI 4)) dX2_plan_44 (by decide) ?_
            refine r_icmp_gtN 57 dX2_plan_45 (by decide) (by omega) (by omega) (fun h45 => ?_) (fun h45 => ?_)
            · refine r_pc 57 rfl ?_
              refine r_aload_n dX2_plan_57 rfl ?_
              refine r_iload_n dX2_plan_58 rfl ?_
              refine r_iload_n dX2_plan_59 rfl ?_
              refine r_cVv dX2_plan_60 (s_planPairs (by omega) hS hs (fun j hj => (hS j hj).1) (fun j hj => (hS j hj).2.2.1) rfl) lX2_65 rfl rfl rfl (by decide) ⟨Nat.le_refl _, Nat.le_refl _⟩ (Nat.le_of_ble_eq_true rfl) ?_
              refine r_pc 63 rfl ?_
              rw [e7]
              rw [e1, e2, e3, e4] at T ⊢
              exact T
            · exact absurd h45 h4
          · exact absurd h32 h11
        · exact absurd h19 hz
end F9
end
section
/-! ===== the floor's counts, its picture ===== -/
def ahB (c f : Nat → Nat) (b : Bool) (d : Nat) : Bool := decide (c d = HC d) && (!b || decide (f d = HF d))
theorem cnt_le (p : Nat → Bool) : ∀ n, cnt p n ≤ n
  | 0 => Nat.le_refl _
  | n + 1 => by
    have := cnt_le p n
    unfold cnt
    split <;> omega
def cpB (c f : Nat → Nat) (d : Nat) : Bool := decide (d % 2 = 0) && (decide (bes c f d 1 = some (d + 1)) && decide (f (d + 1) = f d))
def sgn (c f : Nat → Nat) (x : Nat) (b : Bool) : Nat := match who c 8 x with
  | none => 46
  | some d => if b = true then 49 + d else [94, 62, 118, 60].getD (f d) 0
theorem sgn_I : ∀ i, i < 4 → ([94, 62, 118, 60] : List Int32).getD i 0 = nI ([94, 62, 118, 60].getD i 0) := by decide +kernel
section F10
variable {x0 x1 x2 x3 : AE} {fc ff fs ft fu fw : Nat → Int32} {fy fd : Int32} {po : List AE}
variable {R : List AE} {c f : Nat → Nat}
theorem s_atHome {b : Bool} (hS : Sq fc ff c f) : Sem mX2_atHome 1 0 0 [.ref 4, .int (bI b)] (cF x0 x1 x2 x3 fc ff fs ft fu fw fy fd po, R) (some (.int (nI (cnt (ahB c f b) 8)))) (cF x0 x1 x2 x3 fc ff fs ft fu fw fy fd po, R) := by
  refine sem_of (by decide) (Nat.le_of_ble_eq_true rfl) rfl ?_
  have L : ∀ (m i : Nat), i + m = 8 → Rn mX2_atHome 1 0 0 (cF x0 x1 x2 x3 fc ff fs ft fu fw fy fd po, R) (some (.int (nI (cnt (ahB c f b) 8)))) (cF x0 x1 x2 x3 fc ff fs ft fu fw fy fd po, R) 0 0 4 [some (.ref 4), some (.int (bI b)), some (.int (nI (cnt (ahB c f b) i))), some (.int (nI i))] [] (cF x0 x1 x2 x3 fc ff fs ft fu fw fy fd po, R) := by
    intro m
    induction m with
    | zero =>
      intro i hi
      have : i = 8 := by omega
      subst this
      refine r_iload_n dX2_atHome_4 rfl ?_
      refine r_bipush (v := (nI 8)) dX2_atHome_5 (by decide) ?_
      refine r_icmp_geN 51 dX2_atHome_7 (by decide) (by omega) (by omega) (fun h7 => ?_) (fun h7 => ?_)
      · refine r_pc 51 rfl ?_
        refine r_iload_n dX2_atHome_51 rfl ?_
        exact r_iret dX2_atHome_52 rfl rfl rfl
      · exact absurd h7 (by omega)
    | succ m ih =>
      intro i hi
      have hi8 : i < 8 := by omega
      have ih := ih (i + 1) (by omega)
      obtain ⟨e1, b1, e2, b2⟩ := hS i hi8
      have hh := HC_lt i hi8
      have hk := HF_lt i hi8
      cases hb : ahB c f b i with
      | true =>
        have e3 : cnt (ahB c f b) (i + 1) = cnt (ahB c f b) i + 1 := by rw [cnt, hb]
        rw [e3] at ih
        simp only [ahB, Bool.and_eq_true, Bool.or_eq_true, decide_eq_true_eq] at hb
        cases b with
        | false =>
          refine r_iload_n dX2_atHome_4 rfl ?_
          refine r_bipush (v := (nI 8)) dX2_atHome_5 (by decide) ?_
          refine r_icmp_geN 51 dX2_atHome_7 (by decide) (by omega) (by omega) (fun h7 => ?_) (fun h7 => ?_)
          · exact absurd h7 (by omega)
          · refine r_pc 10 rfl ?_
            refine r_aload_n dX2_atHome_10 rfl ?_
            refine r_get dX2_atHome_11 fX2_9 rfl rfl ?_
            refine r_iload_n dX2_atHome_14 rfl ?_
            refine r_iald dX2_atHome_15 rfl rfl hi8 (by decide) ?_
            refine r_topi _ e1 ?_
            refine r_gets (a := 0) dX2_atHome_16 rfl sX2_75 ?_
            refine r_pc 19 rfl ?_
            refine r_iload_n dX2_atHome_19 rfl ?_
            refine r_cald (v := nI (HC i)) 0 rfl (Or.inl ⟨dX2_atHome_20, rfl⟩) rfl hi8 (by decide) (HC_I i hi8) ?_
            refine r_icmp_neN 45 dX2_atHome_21 (by decide) (by omega) (by omega) (fun h21 => ?_) (fun h21 => ?_)
            · exact absurd hb.1 h21
            · refine r_pc 24 rfl ?_
              refine r_iload_n dX2_atHome_24 rfl ?_
              refine r_if_eq 42 dX2_atHome_25 (by decide) (fun h25 => ?_) (fun h25 => ?_)
              · refine r_pc 42 rfl ?_
                refine r_inc1 (ls' := [_, _, _, _]) dX2_atHome_42 (by decide) rfl rfl ?_
                refine r_inc1 (ls' := [_, _, _, _]) dX2_atHome_45 (by decide) rfl rfl ?_
                refine r_goto 4 dX2_atHome_48 (by decide) ?_
                refine r_pc 4 rfl ?_
                exact ih
              · exact absurd rfl h25
        | true =>
          have hb2 : f i = HF i := hb.2.resolve_left (by decide)
          refine r_iload_n dX2_atHome_4 rfl ?_
          refine r_bipush (v := (nI 8)) dX2_atHome_5 (by decide) ?_
          refine r_icmp_geN 51 dX2_atHome_7 (by decide) (by omega) (by omega) (fun h7 => ?_) (fun h7 => ?_)
          · exact absurd h7 (by omega)
          · refine r_pc 10 rfl ?_
            refine r_aload_n dX2_atHome_10 rfl ?_
            refine r_get dX2_atHome_11 fX2_9 rfl rfl ?_
            refine r_iload_n dX2_atHome_14 rfl ?_
            refine r_iald dX2_atHome_15 rfl rfl hi8 (by decide) ?_
            refine r_topi _ e1 ?_
            refine r_gets (a := 0) dX2_atHome_16 rfl sX2_75 ?_
            refine r_pc 19 rfl ?_
            refine r_iload_n dX2_atHome_19 rfl ?_
            refine r_cald (v := nI (HC i)) 0 rfl (Or.inl ⟨dX2_atHome_20, rfl⟩) rfl hi8 (by decide) (HC_I i hi8) ?_
            refine r_icmp_neN 45 dX2_atHome_21 (by decide) (by omega) (by omega) (fun h21 => ?_) (fun h21 => ?_)
            · exact absurd hb.1 h21
            · refine r_pc 24 rfl ?_
              refine r_iload_n dX2_atHome_24 rfl ?_
              refine r_if_eq 42 dX2_atHome_25 (by decide) (fun h25 => ?_) (fun h25 => ?_)
              · exact absurd h25 (by decide)
              · refine r_pc 28 rfl ?_
                refine r_aload_n dX2_atHome_28 rfl ?_
                refine r_get dX2_atHome_29 fX2_15 rfl rfl ?_
                refine r_iload_n dX2_atHome_32 rfl ?_
                refine r_iald dX2_atHome_33 rfl rfl hi8 (by decide) ?_
                refine r_topi _ e2 ?_
                refine r_gets (a := 1) dX2_atHome_34 rfl sX2_78 ?_
                refine r_pc 37 rfl ?_
                refine r_iload_n dX2_atHome_37 rfl ?_
                refine r_cald (v := nI (HF i)) 1 rfl (Or.inl ⟨dX2_atHome_38, rfl⟩) rfl hi8 (by decide) (HF_I i hi8) ?_
                refine r_icmp_neN 45 dX2_atHome_39 (by decide) (by omega) (by omega) (fun h39 => ?_) (fun h39 => ?_)
                · exact absurd hb2 h39
                · refine r_pc 42 rfl ?_
                  refine r_inc1 (ls' := [_, _, _, _]) dX2_atHome_42 (by decide) rfl rfl ?_
                  refine r_inc1 (ls' := [_, _, _, _]) dX2_atHome_45 (by decide) rfl rfl ?_
                  refine r_goto 4 dX2_atHome_48 (by decide) ?_
                  refine r_pc 4 rfl ?_
                  exact ih
      | false =>
        have e3 : cnt (ahB c f b) (i + 1) = cnt (ahB c f b) i := by rw [cnt, hb]
        rw [e3] at ih
        by_cases hc : c i = HC i
        · cases b with
          | false => simp [ahB, hc] at hb
          | true =>
            have hf : ¬ f i = HF i := by simpa [ahB, hc] using hb
            refine r_iload_n dX2_atHome_4 rfl ?_
            refine r_bipush (v := (nI 8)) dX2_atHome_5 (by decide) ?_
            refine r_icmp_geN 51 dX2_atHome_7 (by decide) (by omega) (by omega) (fun h7 => ?_) (fun h7 => ?_)
            · exact absurd h7 (by omega)
            · refine r_pc 10 rfl ?_
              refine r_aload_n dX2_atHome_10 rfl ?_
              refine r_get dX2_atHome_11 fX2_9 rfl rfl ?_
              refine r_iload_n dX2_atHome_14 rfl ?_
              refine r_iald dX2_atHome_15 rfl rfl hi8 (by decide) ?_
              refine r_topi _ e1 ?_
              refine r_gets (a := 0) dX2_atHome_16 rfl sX2_75 ?_
              refine r_pc 19 rfl ?_
              refine r_iload_n dX2_atHome_19 rfl ?_
              refine r_cald (v := nI (HC i)) 0 rfl (Or.inl ⟨dX2_atHome_20, rfl⟩) rfl hi8 (by decide) (HC_I i hi8) ?_
              refine r_icmp_neN 45 dX2_atHome_21 (by decide) (by omega) (by omega) (fun h21 => ?_) (fun h21 => ?_)
              · exact absurd hc h21
              · refine r_pc 24 rfl ?_
                refine r_iload_n dX2_atHome_24 rfl ?_
                refine r_if_eq 42 dX2_atHome_25 (by decide) (fun h25 => ?_) (fun h25 => ?_)
                · exact absurd h25 (by decide)
                · refine r_pc 28 rfl ?_
                  refine r_aload_n dX2_atHome_28 rfl ?_
                  refine r_get dX2_atHome_29 fX2_15 rfl rfl ?_
                  refine r_iload_n dX2_atHome_32 rfl ?_
                  refine r_iald dX2_atHome_33 rfl rfl hi8 (by decide) ?_
                  refine r_topi _ e2 ?_
                  refine r_gets (a := 1) dX2_atHome_34 rfl sX2_78 ?_
                  refine r_pc 37 rfl ?_
                  refine r_iload_n dX2_atHome_37 rfl ?_
                  refine r_cald (v := nI (HF i)) 1 rfl (Or.inl ⟨dX2_atHome_38, rfl⟩) rfl hi8 (by decide) (HF_I i hi8) ?_
                  refine r_icmp_neN 45 dX2_atHome_39 (by decide) (by omega) (by omega) (fun h39 => ?_) (fun h39 => ?_)
                  · refine r_pc 45 rfl ?_
                    refine r_inc1 (ls' := [_, _, _, _]) dX2_atHome_45 (by decide) rfl rfl ?_
                    refine r_goto 4 dX2_atHome_48 (by decide) ?_
                    refine r_pc 4 rfl ?_
                    exact ih
                  · exact absurd h39 hf
        · refine r_iload_n dX2_atHome_4 rfl ?_
          refine r_bipush (v := (nI 8)) dX2_atHome_5 (by decide) ?_
          refine r_icmp_geN 51 dX2_atHome_7 (by decide) (by omega) (by omega) (fun h7 => ?_) (fun h7 => ?_)
          · exact absurd h7 (by omega)
          · refine r_pc 10 rfl ?_
            refine r_aload_n dX2_atHome_10 rfl ?_
            refine r_get dX2_atHome_11 fX2_9 rfl rfl ?_
            refine r_iload_n dX2_atHome_14 rfl ?_
            refine r_iald dX2_atHome_15 rfl rfl hi8 (by decide) ?_
            refine r_topi _ e1 ?_
            refine r_gets (a := 0) dX2_atHome_16 rfl sX2_75 ?_
            refine r_pc 19 rfl ?_
            refine r_iload_n dX2_atHome_19 rfl ?_
            refine r_cald (v := nI (HC i)) 0 rfl (Or.inl ⟨dX2_atHome_20, rfl⟩) rfl hi8 (by decide) (HC_I i hi8) ?_
            refine r_icmp_neN 45 dX2_atHome_21 (by decide) (by omega) (by omega) (fun h21 => ?_) (fun h21 => ?_)
            · refine r_pc 45 rfl ?_
              refine r_inc1 (ls' := [_, _, _, _]) dX2_atHome_45 (by decide) rfl rfl ?_
              refine r_goto 4 dX2_atHome_48 (by decide) ?_
              refine r_pc 4 rfl ?_
              exact ih
            · exact absurd h21 hc
  refine r_iconst (v := (nI 0)) dX2_atHome_0 (by decide) ?_
  refine r_istore_n (ls' := [_, _, _, _]) dX2_atHome_1 (by decide) rfl ?_
  refine r_iconst (v := (nI 0)) dX2_atHome_2 (by decide) ?_
  refine r_istore_n (ls' := [_, _, _, _]) dX2_atHome_3 (by decide) rfl ?_
  refine r_pc 4 rfl ?_
  exact L 8 0 (by omega)
theorem s_couples (hS : Sq fc ff c f) (hs : Sd fs c) : Sem mX2_couples 3 0 0 [.ref 4] (cF x0 x1 x2 x3 fc ff fs ft fu fw fy fd po, R) (some (.int (nI (cnt (cpB c f) 8)))) (cF x0 x1 x2 x3 fc ff fs ft fu fw fy fd po, R) := by
  refine sem_of (by decide) (Nat.le_of_ble_eq_true rfl) rfl ?_
  have L : ∀ (m i : Nat) (y3 : Option Value), i + m = 4 → Rn mX2_couples 3 0 0 (cF x0 x1 x2 x3 fc ff fs ft fu fw fy fd po, R) (some (.int (nI (cnt (cpB c f) 8)))) (cF x0 x1 x2 x3 fc ff fs ft fu fw fy fd po, R) 0 0 4 [some (.ref 4), some (.int (nI (cnt (cpB c f) (2 * i)))), some (.int (nI (2 * i))), y3] [] (cF x0 x1 x2 x3 fc ff fs ft fu fw fy fd po, R) := by
    intro m
    induction m with
    | zero =>
      intro i y3 hi
      have : i = 4 := by omega
      subst this
      refine r_iload_n dX2_couples_4 rfl ?_
      refine r_bipush (v := (nI 8)) dX2_couples_5 (by decide) ?_
      refine r_icmp_geN 42 dX2_couples_7 (by decide) (by omega) (by omega) (fun h7 => ?_) (fun h7 => ?_)
      · refine r_pc 42 rfl ?_
        refine r_iload_n dX2_couples_42 rfl ?_
        exact r_iret dX2_couples_43 rfl rfl rfl
      · exact absurd h7 (by decide)
    | succ m ih =>
      intro i y3 hi
      have hi8 : 2 * i < 8 := by omega
      have ih := fun y3 => ih (i + 1) y3 (by omega)
      have e2 : 2 * (i + 1) = 2 * i + 1 + 1 := by omega
      have hodd : cpB c f (2 * i + 1) = false := by
        have : ¬ (2 * i + 1) % 2 = 0 := by omega
        simp [cpB, this]
      have e3 : cnt (cpB c f) (2 * (i + 1)) = cnt (cpB c f) (2 * i + 1) := by rw [e2, cnt, hodd]
      rw [e3] at ih
      have hev : (2 * i) % 2 = 0 := by omega
      by_cases hb : bes c f (2 * i) 1 = some (2 * i + 1)
      · by_cases hf : f (2 * i + 1) = f (2 * i)
        · have e4 : cnt (cpB c f) (2 * i + 1) = cnt (cpB c f) (2 * i) + 1 := by rw [cnt, show cpB c f (2 * i) = true by simp [cpB, hb, hf]]
          rw [e4, e2] at ih
          refine r_iload_n dX2_couples_4 rfl ?_
          refine r_bipush (v := (nI 8)) dX2_couples_5 (by decide) ?_
          refine r_icmp_geN 42 dX2_couples_7 (by decide) (by omega) (by omega) (fun h7 => ?_) (fun h7 => ?_)
          · exact absurd h7 (by omega)
          · refine r_pc 10 rfl ?_
            refine r_iload_n dX2_couples_10 rfl ?_
            refine r_iconst (v := (nI 1)) dX2_couples_11 (by decide) ?_
            refine r_iaddN dX2_couples_12 ?_
            refine r_istore_n (ls' := [_, _, _, _]) dX2_couples_13 (by decide) rfl ?_
            refine r_aload_n dX2_couples_14 rfl ?_
            refine r_pc 15 rfl ?_
            refine r_iload_n dX2_couples_15 rfl ?_
            refine r_iconst (v := (nI 1)) dX2_couples_16 (by decide) ?_
            refine r_cV dX2_couples_17 (s_beside hi8 (by decide) hS hs) lX2_103 rfl rfl rfl (by decide) ⟨Nat.le_refl _, Nat.le_refl _⟩ (Nat.le_of_ble_eq_true rfl) ?_
            refine r_iload_n dX2_couples_20 rfl ?_
            refine r_icmp_ne 36 dX2_couples_21 (by decide) (fun h21 => ?_) (fun h21 => ?_)
            · exact absurd (by rw [hb]; rfl) h21
            · refine r_pc 24 rfl ?_
              refine r_aload_n dX2_couples_24 rfl ?_
              refine r_iload_n dX2_couples_25 rfl ?_
              refine r_iload_n dX2_couples_26 rfl ?_
              refine r_cV dX2_couples_27 (s_facesLike (o := some (2 * i + 1)) hi8 (fun e he => by cases he; omega) hS) lX2_119 rfl rfl rfl (by decide) ⟨Nat.le_refl _, Nat.le_refl _⟩ (Nat.le_of_ble_eq_true rfl) ?_
              rw [show lik f (2 * i) (some (2 * i + 1)) = true by simp [lik, hf]]
              refine r_if_eq 36 dX2_couples_30 (by decide) (fun h30 => ?_) (fun h30 => ?_)
              · exact absurd h30 (by decide)
              · refine r_pc 33 rfl ?_
                refine r_inc1 (ls' := [_, _, _, _]) dX2_couples_33 (by decide) rfl rfl ?_
                refine r_iinc (ls' := [_, _, _, _]) dX2_couples_36 (by decide) rfl (show nI (2 * i) + Int32.ofInt 2 = nI (2 * i + 1 + 1) from nI_add (2 * i) 2) rfl ?_
                refine r_goto 4 dX2_couples_39 (by decide) ?_
                refine r_pc 4 rfl ?_
                exact ih _
        · have e4 : cnt (cpB c f) (2 * i + 1) = cnt (cpB c f) (2 * i) := by rw [cnt, show cpB c f (2 * i) = false by simp [cpB, hf]]
          rw [e4, e2] at ih
          refine r_iload_n dX2_couples_4 rfl ?_
          refine r_bipush (v := (nI 8)) dX2_couples_5 (by decide) ?_
          refine r_icmp_geN 42 dX2_couples_7 (by decide) (by omega) (by omega) (fun h7 => ?_) (fun h7 => ?_)
          · exact absurd h7 (by omega)
          · refine r_pc 10 rfl ?_
            refine r_iload_n dX2_couples_10 rfl ?_
            refine r_iconst (v := (nI 1)) dX2_couples_11 (by decide) ?_
            refine r_iaddN dX2_couples_12 ?_
            refine r_istore_n (ls' := [_, _, _, _]) dX2_couples_13 (by decide) rfl ?_
            refine r_aload_n dX2_couples_14 rfl ?_
            refine r_pc 15 rfl ?_
            refine r_iload_n dX2_couples_15 rfl ?_
            refine r_iconst (v := (nI 1)) dX2_couples_16 (by decide) ?_
            refine r_cV dX2_couples_17 (s_beside hi8 (by decide) hS hs) lX2_103 rfl rfl rfl (by decide) ⟨Nat.le_refl _, Nat.le_refl _⟩ (Nat.le_of_ble_eq_true rfl) ?_
            refine r_iload_n dX2_couples_20 rfl ?_
            refine r_icmp_ne 36 dX2_couples_21 (by decide) (fun h21 => ?_) (fun h21 => ?_)
            · exact absurd (by rw [hb]; rfl) h21
            · refine r_pc 24 rfl ?_
              refine r_aload_n dX2_couples_24 rfl ?_
              refine r_iload_n dX2_couples_25 rfl ?_
              refine r_iload_n dX2_couples_26 rfl ?_
              refine r_cV dX2_couples_27 (s_facesLike (o := some (2 * i + 1)) hi8 (fun e he => by cases he; omega) hS) lX2_119 rfl rfl rfl (by decide) ⟨Nat.le_refl _, Nat.le_refl _⟩ (Nat.le_of_ble_eq_true rfl) ?_
              rw [show lik f (2 * i) (some (2 * i + 1)) = false by simp [lik, hf]]
              refine r_if_eq 36 dX2_couples_30 (by decide) (fun h30 => ?_) (fun h30 => ?_)
              · refine r_pc 36 rfl ?_
                refine r_iinc (ls' := [_, _, _, _]) dX2_couples_36 (by decide) rfl (show nI (2 * i) + Int32.ofInt 2 = nI (2 * i + 1 + 1) from nI_add (2 * i) 2) rfl ?_
                refine r_goto 4 dX2_couples_39 (by decide) ?_
                refine r_pc 4 rfl ?_
                exact ih _
              · exact absurd rfl h30
      · have e4 : cnt (cpB c f) (2 * i + 1) = cnt (cpB c f) (2 * i) := by rw [cnt, show cpB c f (2 * i) = false by simp [cpB, hb]]
        rw [e4, e2] at ih
        refine r_iload_n dX2_couples_4 rfl ?_
        refine r_bipush (v := (nI 8)) dX2_couples_5 (by decide) ?_
        refine r_icmp_geN 42 dX2_couples_7 (by decide) (by omega) (by omega) (fun h7 => ?_) (fun h7 => ?_)
        · exact absurd h7 (by omega)
        · refine r_pc 10 rfl ?_
          refine r_iload_n dX2_couples_10 rfl ?_
          refine r_iconst (v := (nI 1)) dX2_couples_11 (by decide) ?_
          refine r_iaddN dX2_couples_12 ?_
          refine r_istore_n (ls' := [_, _, _, _]) dX2_couples_13 (by decide) rfl ?_
          refine r_aload_n dX2_couples_14 rfl ?_
          refine r_pc 15 rfl ?_
          refine r_iload_n dX2_couples_15 rfl ?_
          refine r_iconst (v := (nI 1)) dX2_couples_16 (by decide) ?_
          refine r_cV dX2_couples_17 (s_beside hi8 (by decide) hS hs) lX2_103 rfl rfl rfl (by decide) ⟨Nat.le_refl _, Nat.le_refl _⟩ (Nat.le_of_ble_eq_true rfl) ?_
          refine r_iload_n dX2_couples_20 rfl ?_
          refine r_icmp_ne 36 dX2_couples_21 (by decide) (fun h21 => ?_) (fun h21 => ?_)
          · refine r_pc 36 rfl ?_
            refine r_iinc (ls' := [_, _, _, _]) dX2_couples_36 (by decide) rfl (show nI (2 * i) + Int32.ofInt 2 = nI (2 * i + 1 + 1) from nI_add (2 * i) 2) rfl ?_
            refine r_goto 4 dX2_couples_39 (by decide) ?_
            refine r_pc 4 rfl ?_
            exact ih _
          · exact absurd ((stI_nI (fun y hy => by have := bes_lt hy; omega) (by omega)).mp h21) hb
  refine r_iconst (v := (nI 0)) dX2_couples_0 (by decide) ?_
  refine r_istore_n (ls' := [_, _, _, _]) dX2_couples_1 (by decide) rfl ?_
  refine r_iconst (v := (nI 0)) dX2_couples_2 (by decide) ?_
  refine r_istore_n (ls' := [_, _, _, _]) dX2_couples_3 (by decide) rfl ?_
  refine r_pc 4 rfl ?_
  exact L 4 0 _ (by omega)
theorem s_signOf {x : Nat} {b : Bool} (hx : x < 16) (hS : Sq fc ff c f) (hs : Sd fs c) : Sem mX2_signOf 1 0 0 [.ref 4, .int (nI x), .int (bI b)] (cF x0 x1 x2 x3 fc ff fs ft fu fw fy fd po, R) (some (.int (nI (sgn c f x b)))) (cF x0 x1 x2 x3 fc ff fs ft fu fw fy fd po, R) := by
  refine sem_of (by decide) (Nat.le_of_ble_eq_true rfl) rfl ?_
  have e3 := hs x hx
  unfold sgn
  cases hw : who c 8 x with
  | none =>
    rw [hw] at e3
    refine r_iload_n dX2_signOf_0 rfl ?_
    refine r_if_lt 19 dX2_signOf_1 (by decide) (fun h1 => ?_) (fun h1 => ?_)
    · exact absurd h1 (nI_pos (by omega))
    · refine r_pc 4 rfl ?_
      refine r_iload_n dX2_signOf_4 rfl ?_
      refine r_bipush (v := (nI 16)) dX2_signOf_5 (by decide) ?_
      refine r_icmp_geN 19 dX2_signOf_7 (by decide) (by omega) (by omega) (fun h7 => ?_) (fun h7 => ?_)
      · exact absurd h7 (by omega)
      · refine r_pc 10 rfl ?_
        refine r_aload_n dX2_signOf_10 rfl ?_
        refine r_get dX2_signOf_11 fX2_18 rfl rfl ?_
        refine r_iload_n dX2_signOf_14 rfl ?_
        refine r_iald dX2_signOf_15 rfl rfl hx (by decide) ?_
        refine r_goto 20 dX2_signOf_16 (by decide) ?_
        refine r_topi (-1) e3 ?_
        refine r_istore_n (ls' := [_, _, _, _]) dX2_signOf_20 (by decide) rfl ?_
        refine r_iload_n dX2_signOf_21 rfl ?_
        refine r_iconst (v := (-1)) dX2_signOf_22 (by decide) ?_
        refine r_icmp_ne 29 dX2_signOf_23 (by decide) (fun h23 => ?_) (fun h23 => ?_)
        · exact absurd rfl h23
        · refine r_pc 26 rfl ?_
          refine r_bipush (v := (nI 46)) dX2_signOf_26 (by decide) ?_
          exact r_iret dX2_signOf_28 rfl rfl rfl
  | some d =>
    rw [hw] at e3
    have hd := who_lt hw
    obtain ⟨-, -, e2, b2⟩ := hS d hd
    cases b with
    | true =>
      refine r_iload_n dX2_signOf_0 rfl ?_
      refine r_if_lt 19 dX2_signOf_1 (by decide) (fun h1 => ?_) (fun h1 => ?_)
      · exact absurd h1 (nI_pos (by omega))
      · refine r_pc 4 rfl ?_
        refine r_iload_n dX2_signOf_4 rfl ?_
        refine r_bipush (v := (nI 16)) dX2_signOf_5 (by decide) ?_
        refine r_icmp_geN 19 dX2_signOf_7 (by decide) (by omega) (by omega) (fun h7 => ?_) (fun h7 => ?_)
        · exact absurd h7 (by omega)
        · refine r_pc 10 rfl ?_
          refine r_aload_n dX2_signOf_10 rfl ?_
          refine r_get dX2_signOf_11 fX2_18 rfl rfl ?_
          refine r_iload_n dX2_signOf_14 rfl ?_
          refine r_iald dX2_signOf_15 rfl rfl hx (by decide) ?_
          refine r_goto 20 dX2_signOf_16 (by decide) ?_
          refine r_topi (nI d) e3 ?_
          refine r_istore_n (ls' := [_, _, _, _]) dX2_signOf_20 (by decide) rfl ?_
          refine r_iload_n dX2_signOf_21 rfl ?_
          refine r_iconst (v := (-1)) dX2_signOf_22 (by decide) ?_
          refine r_icmp_ne 29 dX2_signOf_23 (by decide) (fun h23 => ?_) (fun h23 => ?_)
          · refine r_pc 29 rfl ?_
            refine r_iload_n dX2_signOf_29 rfl ?_
            refine r_if_eq 40 dX2_signOf_30 (by decide) (fun h30 => ?_) (fun h30 => ?_)
            · exact absurd h30 (by decide)
            · refine r_pc 33 rfl ?_
              refine r_bipush (v := (nI 49)) dX2_signOf_33 (by decide) ?_
              refine r_iload_n dX2_signOf_35 rfl ?_
              refine r_iaddN dX2_signOf_36 ?_
              refine r_goto 52 dX2_signOf_37 (by decide) ?_
              exact r_iret dX2_signOf_52 rfl rfl rfl
          · exact absurd h23 (nI_m1 (by omega))
    | false =>
      have e5 : nI (f d) &&& nI 3 = nI (f d) := by
        have : nI (f d) &&& nI 3 = nI (f d % 2 ^ 2) := pk_andN (by omega) 2 (by decide)
        rw [this, Nat.mod_eq_of_lt b2]
      refine r_iload_n dX2_signOf_0 rfl ?_
      refine r_if_lt 19 dX2_signOf_1 (by decide) (fun h1 => ?_) (fun h1 => ?_)
      · exact absurd h1 (nI_pos (by omega))
      · refine r_pc 4 rfl ?_
        refine r_iload_n dX2_signOf_4 rfl ?_
        refine r_bipush (v := (nI 16)) dX2_signOf_5 (by decide) ?_
        refine r_icmp_geN 19 dX2_signOf_7 (by decide) (by omega) (by omega) (fun h7 => ?_) (fun h7 => ?_)
        · exact absurd h7 (by omega)
        · refine r_pc 10 rfl ?_
          refine r_aload_n dX2_signOf_10 rfl ?_
          refine r_get dX2_signOf_11 fX2_18 rfl rfl ?_
          refine r_iload_n dX2_signOf_14 rfl ?_
          refine r_iald dX2_signOf_15 rfl rfl hx (by decide) ?_
          refine r_goto 20 dX2_signOf_16 (by decide) ?_
          refine r_topi (nI d) e3 ?_
          refine r_istore_n (ls' := [_, _, _, _]) dX2_signOf_20 (by decide) rfl ?_
          refine r_iload_n dX2_signOf_21 rfl ?_
          refine r_iconst (v := (-1)) dX2_signOf_22 (by decide) ?_
          refine r_icmp_ne 29 dX2_signOf_23 (by decide) (fun h23 => ?_) (fun h23 => ?_)
          · refine r_pc 29 rfl ?_
            refine r_iload_n dX2_signOf_29 rfl ?_
            refine r_if_eq 40 dX2_signOf_30 (by decide) (fun h30 => ?_) (fun h30 => ?_)
            · refine r_pc 40 rfl ?_
              refine r_gets (a := 4) dX2_signOf_40 rfl sX2_128 ?_
              refine r_aload_n dX2_signOf_43 rfl ?_
              refine r_get dX2_signOf_44 fX2_15 rfl rfl ?_
              refine r_iload_n dX2_signOf_47 rfl ?_
              refine r_iald dX2_signOf_48 rfl rfl hd (by decide) ?_
              refine r_pc 49 rfl ?_
              refine r_topi _ e2 ?_
              refine r_iconst (v := (nI 3)) dX2_signOf_49 (by decide) ?_
              refine r_iand dX2_signOf_50 ?_
              refine r_topi _ e5 ?_
              refine r_cald (v := nI ([94, 62, 118, 60].getD (f d) 0)) 4 rfl (Or.inr ⟨dX2_signOf_51, rfl⟩) rfl b2 (by decide) (sgn_I _ b2) ?_
              exact r_iret dX2_signOf_52 rfl rfl rfl
            · exact absurd rfl h30
          · exact absurd h23 (nI_m1 (by omega))
end F10
end
section
theorem lk_copy : Cond.methodLink RX0 33 arraycopyName ∈ lw_gd ∧ Cond.native arraycopyName ∈ lw_gd ∧ Cond.static arraycopyName ∈ lw_gd ∧ Cond.initialized "java/lang/System" ∈ lw_gd := ⟨gd_mem (List.mem_of_getElem? (i := 722) (by decide +kernel)) rfl, gd_mem (List.mem_of_getElem? (i := 724) (by decide +kernel)) rfl, gd_mem (List.mem_of_getElem? (i := 723) (by decide +kernel)) rfl, gd_mem (List.mem_of_getElem? (i := 74) (by decide +kernel)) rfl⟩

theorem r_copyi {Z : ZT} {X : XT} {M : MI} {k mc ms : Nat} {w0 : WD} {nc ns pc : Nat} {ls : List (Option Value)} {w w2 : WD} {idx q0 q1 n0 n1 n : Nat} {f g : Nat → Int32} (hd : decode M.2.1 pc = .ok (.invokestatic idx, 3)) (hL : Cond.methodLink M.1.cls idx arraycopyName ∈ lw_gd ∧ Cond.native arraycopyName ∈ lw_gd ∧ Cond.static arraycopyName ∈ lw_gd ∧ Cond.initialized "java/lang/System" ∈ lw_gd) (hw0 : wg w q0 = some (.inl (0, n0, .inl f))) (hw1 : wg w q1 = some (.inl (0, n1, .inl g))) (h0 : n ≤ n0) (h1 : n ≤ n1) (hn : n < 2 ^ 31) (hk : 1 ≤ k) (hloc : nativeFrameWords "java/lang/System" "arraycopy" 5 + 11 ≤ 38 * k) (h2 : wput w q1 (.inl (0, n1, .inl (va_cpy f g 0 0 n))) = w2) (K : Rq Z X M k mc ms w0 nc ns (pc + 3) ls [] w2) : Rq Z X M k mc ms w0 nc ns pc ls [.int (nI n), .int (nI 0), .ref q1, .int (nI 0), .ref q0] w := by
  intro p l e s m args below meth c D cA ad0 A hC hX ad H locs lsA hg hP hD hS hl
  have hC0 := hC
  obtain ⟨hx, hb, hml, hrt, hlk, hnm, hown, hts, hK, hA, hSt⟩ := hC
  obtain ⟨a0, hq0, -⟩ := cw_at (ad := ad) (cA := cA) hw0
  obtain ⟨a1, hq1, hs⟩ := cw_at (ad := ad) (cA := cA) hw1
  have z0 : (nI 0).toNatClampNeg = 0 := nI_clamp (by decide)
  have zn : (nI n).toNatClampNeg = n := nI_clamp hn
  refine va_copyi hx hb (hml.trans hl.1.symm) hown (hts _ hL.1) (hts _ hL.2.1) (hts _ hL.2.2.1) (hts _ hL.2.2.2) hK hP hD hS a0 a1 0 0 hq0 hq1 rfl rfl rfl (nI_pos (by decide)) (nI_pos (by decide)) (nI_pos hn) (by rw [z0, zn, Nat.zero_add]; exact h0) (by rw [z0, zn, Nat.zero_add]; exact h1) (fun _ _ => rfl) hk (by show 0 + _ ≤ 38 * k; omega) hd (fun H1 locs1 hP1 hD1 hS1 => ?_)
  rw [z0, zn] at hP1 hD1
  have hs2 := hs (.inl (0, n1, .inl (va_cpy f g 0 0 n)))
  rw [h2] at hs2
  have hs3 : (cw ad cA w).set a1 (ad q1, .inl (cA 0, n1, .inl (va_cpy f g 0 0 n))) = cw ad cA w2 := hs2
  rw [hs3] at hP1 hD1
  exact K p l e s m args below meth c D cA ad0 A hC0 hX ad H1 locs1 lsA hg hP1 hD1 hS1 hl
theorem r_copyl {Z : ZT} {X : XT} {M : MI} {k mc ms : Nat} {w0 : WD} {nc ns pc : Nat} {ls : List (Option Value)} {w w2 : WD} {idx q0 q1 n0 n1 n : Nat} {f g : Nat → Int64} (hd : decode M.2.1 pc = .ok (.invokestatic idx, 3)) (hL : Cond.methodLink M.1.cls idx arraycopyName ∈ lw_gd ∧ Cond.native arraycopyName ∈ lw_gd ∧ Cond.static arraycopyName ∈ lw_gd ∧ Cond.initialized "java/lang/System" ∈ lw_gd) (hw0 : wg w q0 = some (.inl (1, n0, .inr (.inl f)))) (hw1 : wg w q1 = some (.inl (1, n1, .inr (.inl g)))) (h0 : n ≤ n0) (h1 : n ≤ n1) (hn : n < 2 ^ 31) (hk : 1 ≤ k) (hloc : nativeFrameWords "java/lang/System" "arraycopy" 5 + 11 ≤ 38 * k) (h2 : wput w q1 (.inl (1, n1, .inr (.inl (va_cpy f g 0 0 n)))) = w2) (K : Rq Z X M k mc ms w0 nc ns (pc + 3) ls [] w2) : Rq Z X M k mc ms w0 nc ns pc ls [.int (nI n), .int (nI 0), .ref q1, .int (nI 0), .ref q0] w := by
  intro p l e s m args below meth c D cA ad0 A hC hX ad H locs lsA hg hP hD hS hl
  have hC0 := hC
  obtain ⟨hx, hb, hml, hrt, hlk, hnm, hown, hts, hK, hA, hSt⟩ := hC
  obtain ⟨a0, hq0, -⟩ := cw_at (ad := ad) (cA := cA) hw0
  obtain ⟨a1, hq1, hs⟩ := cw_at (ad := ad) (cA := cA) hw1
  have z0 : (nI 0).toNatClampNeg = 0 := nI_clamp (by decide)
  have zn : (nI n).toNatClampNeg = n := nI_clamp hn
  refine va_copyl hx hb (hml.trans hl.1.symm) hown (hts _ hL.1) (hts _ hL.2.1) (hts _ hL.2.2.1) (hts _ hL.2.2.2) hK hP hD hS a0 a1 1 1 hq0 hq1 rfl rfl rfl (nI_pos (by decide)) (nI_pos (by decide)) (nI_pos hn) (by rw [z0, zn, Nat.zero_add]; exact h0) (by rw [z0, zn, Nat.zero_add]; exact h1) (fun _ _ => rfl) hk (by show 0 + _ ≤ 38 * k; omega) hd (fun H1 locs1 hP1 hD1 hS1 => ?_)
  rw [z0, zn] at hP1 hD1
  have hs2 := hs (.inl (1, n1, .inr (.inl (va_cpy f g 0 0 n))))
  rw [h2] at hs2
  have hs3 : (cw ad cA w).set a1 (ad q1, .inl (cA 1, n1, .inr (.inl (va_cpy f g 0 0 n)))) = cw ad cA w2 := hs2
  rw [hs3] at hP1 hD1
  exact K p l e s m args below meth c D cA ad0 A hC0 hX ad H1 locs1 lsA hg hP1 hD1 hS1 hl
theorem cpy_ext {α : Type} (f g : Nat → α) {n j : Nat} (h : j < n) : va_cpy f g 0 0 n j = f j := by
  rw [pk_cpy_in (Nat.zero_le _) (by omega)]
  congr 1
  omega
/-- how many calls side by side, from the i-th on, are the same: k of them are; at most fuel more -/
def sfx (dc : Nat → Int32) (n i : Nat) : Nat → Nat → Nat
  | 0, k => k
  | fuel + 1, k => if i + k < n ∧ dc (i + k) = dc i then sfx dc n i fuel (k + 1) else k
def sameN (dc : Nat → Int32) (n i : Nat) : Nat := sfx dc n i 3 1
section D1
variable {tb : Nat → Int32} {tl : Int32} {tc : Nat → Int32} {tn : Int32} {fc ff fs ft fu fw : Nat → Int32} {fy fd : Int32} {dc : Nat → Int32} {dp dq : Nat → Int64} {dn dm : Int32} {ec : Nat → Int32} {ep eq : Nat → Int64} {en em ik : Int32} {lr : Nat → Int32} {ln ly : Int32} {wh : Int64} {wr : Nat → Int64} {wf wb : Nat → Int32} {wn : Int32} {wc : Nat → Int32} {ws : Int64} {wa pw pf pl : Int32} {ta : Nat → Int32}
variable {R : List AE}
theorem s_latest {n : Nat} (hn : n ≤ 200) : Sem mX0_latest 1 0 0 [.ref 11] (cW tb tl tc tn fc ff fs ft fu fw fy fd dc dp dq (nI n) dm ec ep eq en em ik lr ln ly wh wr wf wb wn wc ws wa pw pf pl ta, R) (some (.long (dp n))) (cW tb tl tc tn fc ff fs ft fu fw fy fd dc dp dq (nI n) dm ec ep eq en em ik lr ln ly wh wr wf wb wn wc ws wa pw pf pl ta, R) := by
  refine sem_of (by decide) (Nat.le_of_ble_eq_true rfl) rfl ?_
  refine r_aload_n dX0_latest_0 rfl ?_
  refine r_get dX0_latest_1 fX0_13 rfl rfl ?_
  refine r_aload_n dX0_latest_4 rfl ?_
  refine r_get dX0_latest_5 fX0_20 rfl rfl ?_
  refine r_lald dX0_latest_8 rfl rfl (by omega) (by decide) ?_
  refine r_pc 9 rfl ?_
  exact r_lret dX0_latest_9 rfl rfl rfl
theorem s_latestK {n : Nat} (hn : n ≤ 200) : Sem mX0_latest 1 0 0 [.ref 15] (cW tb tl tc tn fc ff fs ft fu fw fy fd dc dp dq dn dm ec ep eq (nI n) em ik lr ln ly wh wr wf wb wn wc ws wa pw pf pl ta, R) (some (.long (ep n))) (cW tb tl tc tn fc ff fs ft fu fw fy fd dc dp dq dn dm ec ep eq (nI n) em ik lr ln ly wh wr wf wb wn wc ws wa pw pf pl ta, R) := by
  refine sem_of (by decide) (Nat.le_of_ble_eq_true rfl) rfl ?_
  refine r_aload_n dX0_latest_0 rfl ?_
  refine r_get dX0_latest_1 fX0_13 rfl rfl ?_
  refine r_aload_n dX0_latest_4 rfl ?_
  refine r_get dX0_latest_5 fX0_20 rfl rfl ?_
  refine r_lald dX0_latest_8 rfl rfl (by omega) (by decide) ?_
  refine r_pc 9 rfl ?_
  exact r_lret dX0_latest_9 rfl rfl rfl
theorem s_codeAtD {n i : Nat} (hn : n ≤ 200) (hi : i < n) : Sem mX0_codeAt 1 0 0 [.ref 11, .int (nI i)] (cW tb tl tc tn fc ff fs ft fu fw fy fd dc dp dq (nI n) dm ec ep eq en em ik lr ln ly wh wr wf wb wn wc ws wa pw pf pl ta, R) (some (.int (dc i))) (cW tb tl tc tn fc ff fs ft fu fw fy fd dc dp dq (nI n) dm ec ep eq en em ik lr ln ly wh wr wf wb wn wc ws wa pw pf pl ta, R) := by
  refine sem_of (by decide) (Nat.le_of_ble_eq_true rfl) rfl ?_
  refine r_iload_n dX0_codeAt_0 rfl ?_
  refine r_if_lt 21 dX0_codeAt_1 (by decide) (fun h1 => ?_) (fun h1 => ?_)
  · exact absurd h1 (nI_pos (by omega))
  · refine r_pc 4 rfl ?_
    refine r_iload_n dX0_codeAt_4 rfl ?_
    refine r_aload_n dX0_codeAt_5 rfl ?_
    refine r_get dX0_codeAt_6 fX0_20 rfl rfl ?_
    refine r_icmp_geN 21 dX0_codeAt_9 (by decide) (by omega) (by omega) (fun h9 => ?_) (fun h9 => ?_)
    · exact absurd h9 (by omega)
    · refine r_pc 12 rfl ?_
      refine r_aload_n dX0_codeAt_12 rfl ?_
      refine r_get dX0_codeAt_13 fX0_9 rfl rfl ?_
      refine r_iload_n dX0_codeAt_16 rfl ?_
      refine r_iald dX0_codeAt_17 rfl rfl (by omega) (by decide) ?_
      refine r_goto 22 dX0_codeAt_18 (by decide) ?_
      exact r_iret dX0_codeAt_22 rfl rfl rfl
theorem s_addD {n : Nat} {x : Int32} {q : Int64} (hn : n < 200) : Sem mX0_add 1 0 0 [.ref 11, .int x, .long q] (cW tb tl tc tn fc ff fs ft fu fw fy fd dc dp dq (nI n) dm ec ep eq en em ik lr ln ly wh wr wf wb wn wc ws wa pw pf pl ta, R) none (cW tb tl tc tn fc ff fs ft fu fw fy fd (upd dc n x) (vp_updL dp (n + 1) q) dq (nI (n + 1)) (nI (n + 1)) ec ep eq en em ik lr ln ly wh wr wf wb wn wc ws wa pw pf pl ta, R) := by
  refine sem_of (by decide) (Nat.le_of_ble_eq_true rfl) rfl ?_
  refine r_aload_n dX0_add_0 rfl ?_
  refine r_get dX0_add_1 fX0_20 rfl rfl ?_
  refine r_sipush (v := (nI 200)) dX0_add_4 (by decide) ?_
  refine r_icmp_ltN 11 dX0_add_7 (by decide) (by omega) (by omega) (fun h7 => ?_) (fun h7 => ?_)
  · refine r_pc 11 rfl ?_
    refine r_aload_n dX0_add_11 rfl ?_
    refine r_get dX0_add_12 fX0_9 rfl rfl ?_
    refine r_aload_n dX0_add_15 rfl ?_
    refine r_get dX0_add_16 fX0_20 rfl rfl ?_
    refine r_iload_n dX0_add_19 rfl ?_
    refine r_pc 20 rfl ?_
    refine r_iast (w2 := (cW _ _ _ _ _ _ _ _ _ _ _ _ _ _ _ _ _ _ _ _ _ _ _ _ _ _ _ _ _ _ _ _ _ _ _ _ _ _, _)) dX0_add_20 rfl rfl (by omega) (by decide) rfl ?_
    refine r_aload_n dX0_add_21 rfl ?_
    refine r_dup dX0_add_22 rfl ?_
    refine r_get dX0_add_23 fX0_20 rfl rfl ?_
    refine r_iconst (v := (nI 1)) dX0_add_26 (by decide) ?_
    refine r_pc 27 rfl ?_
    refine r_iaddN dX0_add_27 ?_
    refine r_put (w2 := (cW _ _ _ _ _ _ _ _ _ _ _ _ _ _ _ _ _ _ _ _ _ _ _ _ _ _ _ _ _ _ _ _ _ _ _ _ _ _, _)) dX0_add_28 fX0_20 rfl rfl (Nat.le_of_ble_eq_true rfl) (fun _ => rfl) (fun _ => rfl) rfl ?_
    refine r_aload_n dX0_add_31 rfl ?_
    refine r_get dX0_add_32 fX0_13 rfl rfl ?_
    refine r_aload_n dX0_add_35 rfl ?_
    refine r_pc 36 rfl ?_
    refine r_get dX0_add_36 fX0_20 rfl rfl ?_
    refine r_lload_n dX0_add_39 rfl ?_
    refine r_last (w2 := (cW _ _ _ _ _ _ _ _ _ _ _ _ _ _ _ _ _ _ _ _ _ _ _ _ _ _ _ _ _ _ _ _ _ _ _ _ _ _, _)) dX0_add_40 rfl rfl (by omega) (by decide) rfl ?_
    refine r_aload_n dX0_add_41 rfl ?_
    refine r_aload_n dX0_add_42 rfl ?_
    refine r_pc 43 rfl ?_
    refine r_get dX0_add_43 fX0_20 rfl rfl ?_
    refine r_put (w2 := (cW _ _ _ _ _ _ _ _ _ _ _ _ _ _ _ _ _ _ _ _ _ _ _ _ _ _ _ _ _ _ _ _ _ _ _ _ _ _, _)) dX0_add_46 fX0_24 rfl rfl (Nat.le_of_ble_eq_true rfl) (fun _ => rfl) (fun _ => rfl) rfl ?_
    exact r_vret dX0_add_49 rfl rfl rfl
  · exact absurd h7 (by omega)
theorem s_stepBack0 : Sem mX0_stepBack 1 0 0 [.ref 11] (cW tb tl tc tn fc ff fs ft fu fw fy fd dc dp dq (nI 0) dm ec ep eq en em ik lr ln ly wh wr wf wb wn wc ws wa pw pf pl ta, R) (some (.int (nI 0))) (cW tb tl tc tn fc ff fs ft fu fw fy fd dc dp dq (nI 0) dm ec ep eq en em ik lr ln ly wh wr wf wb wn wc ws wa pw pf pl ta, R) := by
  refine sem_of (by decide) (Nat.le_of_ble_eq_true rfl) rfl ?_
  refine r_aload_n dX0_stepBack_0 rfl ?_
  refine r_get dX0_stepBack_1 fX0_20 rfl rfl ?_
  refine r_if_ne 9 dX0_stepBack_4 (by decide) (fun h4 => ?_) (fun h4 => ?_)
  · exact absurd rfl h4
  · refine r_pc 7 rfl ?_
    refine r_iconst (v := (nI 0)) dX0_stepBack_7 (by decide) ?_
    exact r_zret dX0_stepBack_8 rfl rfl rfl rfl
theorem s_stepBack1 {n : Nat} (hn : n < 200) : Sem mX0_stepBack 1 0 0 [.ref 11] (cW tb tl tc tn fc ff fs ft fu fw fy fd dc dp dq (nI (n + 1)) dm ec ep eq en em ik lr ln ly wh wr wf wb wn wc ws wa pw pf pl ta, R) (some (.int (nI 1))) (cW tb tl tc tn fc ff fs ft fu fw fy fd dc dp dq (nI n) dm ec ep eq en em ik lr ln ly wh wr wf wb wn wc ws wa pw pf pl ta, R) := by
  refine sem_of (by decide) (Nat.le_of_ble_eq_true rfl) rfl ?_
  refine r_aload_n dX0_stepBack_0 rfl ?_
  refine r_get dX0_stepBack_1 fX0_20 rfl rfl ?_
  refine r_if_ne 9 dX0_stepBack_4 (by decide) (fun h4 => ?_) (fun h4 => ?_)
  · refine r_pc 9 rfl ?_
    refine r_aload_n dX0_stepBack_9 rfl ?_
    refine r_dup dX0_stepBack_10 rfl ?_
    refine r_get dX0_stepBack_11 fX0_20 rfl rfl ?_
    refine r_iconst (v := (nI 1)) dX0_stepBack_14 (by decide) ?_
    refine r_isubN dX0_stepBack_15 (by omega) ?_
    refine r_pc 16 rfl ?_
    refine r_put (w2 := (cW _ _ _ _ _ _ _ _ _ _ _ _ _ _ _ _ _ _ _ _ _ _ _ _ _ _ _ _ _ _ _ _ _ _ _ _ _ _, _)) dX0_stepBack_16 fX0_20 rfl rfl (Nat.le_of_ble_eq_true rfl) (fun _ => rfl) (fun _ => rfl) rfl ?_
    refine r_iconst (v := (nI 1)) dX0_stepBack_19 (by decide) ?_
    exact r_zret dX0_stepBack_20 rfl rfl rfl rfl
  · exact absurd (nI_z (by omega) h4) (by omega)
theorem s_stepAgain0 {n m : Nat} (hn : n ≤ 200) (h : m ≤ n) : Sem mX0_stepAgain 1 0 0 [.ref 11] (cW tb tl tc tn fc ff fs ft fu fw fy fd dc dp dq (nI n) (nI m) ec ep eq en em ik lr ln ly wh wr wf wb wn wc ws wa pw pf pl ta, R) (some (.int (nI 0))) (cW tb tl tc tn fc ff fs ft fu fw fy fd dc dp dq (nI n) (nI m) ec ep eq en em ik lr ln ly wh wr wf wb wn wc ws wa pw pf pl ta, R) := by
  refine sem_of (by decide) (Nat.le_of_ble_eq_true rfl) rfl ?_
  refine r_aload_n dX0_stepAgain_0 rfl ?_
  refine r_get dX0_stepAgain_1 fX0_20 rfl rfl ?_
  refine r_aload_n dX0_stepAgain_4 rfl ?_
  refine r_get dX0_stepAgain_5 fX0_24 rfl rfl ?_
  refine r_icmp_ltN 13 dX0_stepAgain_8 (by decide) (by omega) (by omega) (fun h8 => ?_) (fun h8 => ?_)
  · exact absurd h8 (by omega)
  · refine r_pc 11 rfl ?_
    refine r_iconst (v := (nI 0)) dX0_stepAgain_11 (by decide) ?_
    exact r_zret dX0_stepAgain_12 rfl rfl rfl rfl
theorem s_stepAgain1 {n m : Nat} (hm : m ≤ 200) (h : n < m) : Sem mX0_stepAgain 1 0 0 [.ref 11] (cW tb tl tc tn fc ff fs ft fu fw fy fd dc dp dq (nI n) (nI m) ec ep eq en em ik lr ln ly wh wr wf wb wn wc ws wa pw pf pl ta, R) (some (.int (nI 1))) (cW tb tl tc tn fc ff fs ft fu fw fy fd dc dp dq (nI (n + 1)) (nI m) ec ep eq en em ik lr ln ly wh wr wf wb wn wc ws wa pw pf pl ta, R) := by
  refine sem_of (by decide) (Nat.le_of_ble_eq_true rfl) rfl ?_
  refine r_aload_n dX0_stepAgain_0 rfl ?_
  refine r_get dX0_stepAgain_1 fX0_20 rfl rfl ?_
  refine r_aload_n dX0_stepAgain_4 rfl ?_
  refine r_get dX0_stepAgain_5 fX0_24 rfl rfl ?_
  refine r_icmp_ltN 13 dX0_stepAgain_8 (by decide) (by omega) (by omega) (fun h8 => ?_) (fun h8 => ?_)
  · refine r_pc 13 rfl ?_
    refine r_aload_n dX0_stepAgain_13 rfl ?_
    refine r_dup dX0_stepAgain_14 rfl ?_
    refine r_get dX0_stepAgain_15 fX0_20 rfl rfl ?_
    refine r_iconst (v := (nI 1)) dX0_stepAgain_18 (by decide) ?_
    refine r_iaddN dX0_stepAgain_19 ?_
    refine r_pc 20 rfl ?_
    refine r_put (w2 := (cW _ _ _ _ _ _ _ _ _ _ _ _ _ _ _ _ _ _ _ _ _ _ _ _ _ _ _ _ _ _ _ _ _ _ _ _ _ _, _)) dX0_stepAgain_20 fX0_20 rfl rfl (Nat.le_of_ble_eq_true rfl) (fun _ => rfl) (fun _ => rfl) rfl ?_
    refine r_iconst (v := (nI 1)) dX0_stepAgain_23 (by decide) ?_
    exact r_zret dX0_stepAgain_24 rfl rfl rfl rfl
  · exact absurd h8 (by omega)
theorem s_clearD : Sem mX0_clear 1 0 0 [.ref 11] (cW tb tl tc tn fc ff fs ft fu fw fy fd dc dp dq dn dm ec ep eq en em ik lr ln ly wh wr wf wb wn wc ws wa pw pf pl ta, R) none (cW tb tl tc tn fc ff fs ft fu fw fy fd dc dp dq (nI 0) (nI 0) ec ep eq en em ik lr ln ly wh wr wf wb wn wc ws wa pw pf pl ta, R) := by
  refine sem_of (by decide) (Nat.le_of_ble_eq_true rfl) rfl ?_
  refine r_aload_n dX0_clear_0 rfl ?_
  refine r_iconst (v := (nI 0)) dX0_clear_1 (by decide) ?_
  refine r_put (w2 := (cW _ _ _ _ _ _ _ _ _ _ _ _ _ _ _ _ _ _ _ _ _ _ _ _ _ _ _ _ _ _ _ _ _ _ _ _ _ _, _)) dX0_clear_2 fX0_20 rfl rfl (Nat.le_of_ble_eq_true rfl) (fun _ => rfl) (fun _ => rfl) rfl ?_
  refine r_aload_n dX0_clear_5 rfl ?_
  refine r_iconst (v := (nI 0)) dX0_clear_6 (by decide) ?_
  refine r_pc 7 rfl ?_
  refine r_put (w2 := (cW _ _ _ _ _ _ _ _ _ _ _ _ _ _ _ _ _ _ _ _ _ _ _ _ _ _ _ _ _ _ _ _ _ _ _ _ _ _, _)) dX0_clear_7 fX0_24 rfl rfl (Nat.le_of_ble_eq_true rfl) (fun _ => rfl) (fun _ => rfl) rfl ?_
  exact r_vret dX0_clear_10 rfl rfl rfl
theorem s_copyK {n : Nat} (hn : n ≤ 200) : Sem mX0_copyFrom 2 0 0 [.ref 15, .ref 11] (cW tb tl tc tn fc ff fs ft fu fw fy fd dc dp dq (nI n) dm ec ep eq en em ik lr ln ly wh wr wf wb wn wc ws wa pw pf pl ta, R) none (cW tb tl tc tn fc ff fs ft fu fw fy fd dc dp dq (nI n) dm (va_cpy dc ec 0 0 n) (va_cpy dp ep 0 0 (n + 1)) eq (nI n) (nI n) ik lr ln ly wh wr wf wb wn wc ws wa pw pf pl ta, R) := by
  refine sem_of (by decide) (Nat.le_of_ble_eq_true rfl) rfl ?_
  refine r_aload_n dX0_copyFrom_0 rfl ?_
  refine r_aload_n dX0_copyFrom_1 rfl ?_
  refine r_get dX0_copyFrom_2 fX0_20 rfl rfl ?_
  refine r_put (w2 := (cW _ _ _ _ _ _ _ _ _ _ _ _ _ _ _ _ _ _ _ _ _ _ _ _ _ _ _ _ _ _ _ _ _ _ _ _ _ _, _)) dX0_copyFrom_5 fX0_20 rfl rfl (Nat.le_of_ble_eq_true rfl) (fun _ => rfl) (fun _ => rfl) rfl ?_
  refine r_aload_n dX0_copyFrom_8 rfl ?_
  refine r_pc 9 rfl ?_
  refine r_aload_n dX0_copyFrom_9 rfl ?_
  refine r_get dX0_copyFrom_10 fX0_20 rfl rfl ?_
  refine r_put (w2 := (cW _ _ _ _ _ _ _ _ _ _ _ _ _ _ _ _ _ _ _ _ _ _ _ _ _ _ _ _ _ _ _ _ _ _ _ _ _ _, _)) dX0_copyFrom_13 fX0_24 rfl rfl (Nat.le_of_ble_eq_true rfl) (fun _ => rfl) (fun _ => rfl) rfl ?_
  refine r_aload_n dX0_copyFrom_16 rfl ?_
  refine r_get dX0_copyFrom_17 fX0_9 rfl rfl ?_
  refine r_pc 20 rfl ?_
  refine r_iconst (v := (nI 0)) dX0_copyFrom_20 (by decide) ?_
  refine r_aload_n dX0_copyFrom_21 rfl ?_
  refine r_get dX0_copyFrom_22 fX0_9 rfl rfl ?_
  refine r_iconst (v := (nI 0)) dX0_copyFrom_25 (by decide) ?_
  refine r_aload_n dX0_copyFrom_26 rfl ?_
  refine r_pc 27 rfl ?_
  refine r_get dX0_copyFrom_27 fX0_20 rfl rfl ?_
  refine r_pc 30 rfl ?_
  refine r_copyi (w2 := (cW _ _ _ _ _ _ _ _ _ _ _ _ _ _ _ _ _ _ _ _ _ _ _ _ _ _ _ _ _ _ _ _ _ _ _ _ _ _, _)) dX0_copyFrom_30 lk_copy rfl rfl (by omega) (by omega) (by omega) (by decide) (by decide +kernel) rfl ?_
  refine r_aload_n dX0_copyFrom_33 rfl ?_
  refine r_get dX0_copyFrom_34 fX0_13 rfl rfl ?_
  refine r_iconst (v := (nI 0)) dX0_copyFrom_37 (by decide) ?_
  refine r_aload_n dX0_copyFrom_38 rfl ?_
  refine r_get dX0_copyFrom_39 fX0_13 rfl rfl ?_
  refine r_pc 42 rfl ?_
  refine r_iconst (v := (nI 0)) dX0_copyFrom_42 (by decide) ?_
  refine r_aload_n dX0_copyFrom_43 rfl ?_
  refine r_get dX0_copyFrom_44 fX0_20 rfl rfl ?_
  refine r_iconst (v := (nI 1)) dX0_copyFrom_47 (by decide) ?_
  refine r_iaddN dX0_copyFrom_48 ?_
  refine r_pc 49 rfl ?_
  refine r_copyl (w2 := (cW _ _ _ _ _ _ _ _ _ _ _ _ _ _ _ _ _ _ _ _ _ _ _ _ _ _ _ _ _ _ _ _ _ _ _ _ _ _, _)) dX0_copyFrom_49 lk_copy rfl rfl (by omega) (by omega) (by omega) (by decide) (by decide +kernel) rfl ?_
  exact r_vret dX0_copyFrom_52 rfl rfl rfl
theorem s_copyB {n : Nat} (hn : n ≤ 200) : Sem mX0_copyFrom 2 0 0 [.ref 11, .ref 15] (cW tb tl tc tn fc ff fs ft fu fw fy fd dc dp dq dn dm ec ep eq (nI n) em ik lr ln ly wh wr wf wb wn wc ws wa pw pf pl ta, R) none (cW tb tl tc tn fc ff fs ft fu fw fy fd (va_cpy ec dc 0 0 n) (va_cpy ep dp 0 0 (n + 1)) dq (nI n) (nI n) ec ep eq (nI n) em ik lr ln ly wh wr wf wb wn wc ws wa pw pf pl ta, R) := by
  refine sem_of (by decide) (Nat.le_of_ble_eq_true rfl) rfl ?_
  refine r_aload_n dX0_copyFrom_0 rfl ?_
  refine r_aload_n dX0_copyFrom_1 rfl ?_
  refine r_get dX0_copyFrom_2 fX0_20 rfl rfl ?_
  refine r_put (w2 := (cW _ _ _ _ _ _ _ _ _ _ _ _ _ _ _ _ _ _ _ _ _ _ _ _ _ _ _ _ _ _ _ _ _ _ _ _ _ _, _)) dX0_copyFrom_5 fX0_20 rfl rfl (Nat.le_of_ble_eq_true rfl) (fun _ => rfl) (fun _ => rfl) rfl ?_
  refine r_aload_n dX0_copyFrom_8 rfl ?_
  refine r_pc 9 rfl ?_
  refine r_aload_n dX0_copyFrom_9 rfl ?_
  refine r_get dX0_copyFrom_10 fX0_20 rfl rfl ?_
  refine r_put (w2 := (cW _ _ _ _ _ _ _ _ _ _ _ _ _ _ _ _ _ _ _ _ _ _ _ _ _ _ _ _ _ _ _ _ _ _ _ _ _ _, _)) dX0_copyFrom_13 fX0_24 rfl rfl (Nat.le_of_ble_eq_true rfl) (fun _ => rfl) (fun _ => rfl) rfl ?_
  refine r_aload_n dX0_copyFrom_16 rfl ?_
  refine r_get dX0_copyFrom_17 fX0_9 rfl rfl ?_
  refine r_pc 20 rfl ?_
  refine r_iconst (v := (nI 0)) dX0_copyFrom_20 (by decide) ?_
  refine r_aload_n dX0_copyFrom_21 rfl ?_
  refine r_get dX0_copyFrom_22 fX0_9 rfl rfl ?_
  refine r_iconst (v := (nI 0)) dX0_copyFrom_25 (by decide) ?_
  refine r_aload_n dX0_copyFrom_26 rfl ?_
  refine r_pc 27 rfl ?_
  refine r_get dX0_copyFrom_27 fX0_20 rfl rfl ?_
  refine r_pc 30 rfl ?_
  refine r_copyi (w2 := (cW _ _ _ _ _ _ _ _ _ _ _ _ _ _ _ _ _ _ _ _ _ _ _ _ _ _ _ _ _ _ _ _ _ _ _ _ _ _, _)) dX0_copyFrom_30 lk_copy rfl rfl (by omega) (by omega) (by omega) (by decide) (by decide +kernel) rfl ?_
  refine r_aload_n dX0_copyFrom_33 rfl ?_
  refine r_get dX0_copyFrom_34 fX0_13 rfl rfl ?_
  refine r_iconst (v := (nI 0)) dX0_copyFrom_37 (by decide) ?_
  refine r_aload_n dX0_copyFrom_38 rfl ?_
  refine r_get dX0_copyFrom_39 fX0_13 rfl rfl ?_
  refine r_pc 42 rfl ?_
  refine r_iconst (v := (nI 0)) dX0_copyFrom_42 (by decide) ?_
  refine r_aload_n dX0_copyFrom_43 rfl ?_
  refine r_get dX0_copyFrom_44 fX0_20 rfl rfl ?_
  refine r_iconst (v := (nI 1)) dX0_copyFrom_47 (by decide) ?_
  refine r_iaddN dX0_copyFrom_48 ?_
  refine r_pc 49 rfl ?_
  refine r_copyl (w2 := (cW _ _ _ _ _ _ _ _ _ _ _ _ _ _ _ _ _ _ _ _ _ _ _ _ _ _ _ _ _ _ _ _ _ _ _ _ _ _, _)) dX0_copyFrom_49 lk_copy rfl rfl (by omega) (by omega) (by omega) (by decide) (by decide +kernel) rfl ?_
  exact r_vret dX0_copyFrom_52 rfl rfl rfl
theorem s_sameFrom {n i : Nat} (hn : n ≤ 200) (hi : i < n) : Sem mX0_sameFrom 2 0 0 [.ref 11, .int (nI i)] (cW tb tl tc tn fc ff fs ft fu fw fy fd dc dp dq (nI n) dm ec ep eq en em ik lr ln ly wh wr wf wb wn wc ws wa pw pf pl ta, R) (some (.int (nI (sameN dc n i)))) (cW tb tl tc tn fc ff fs ft fu fw fy fd dc dp dq (nI n) dm ec ep eq en em ik lr ln ly wh wr wf wb wn wc ws wa pw pf pl ta, R) := by
  refine sem_of (by decide) (Nat.le_of_ble_eq_true rfl) rfl ?_
  have L : ∀ (m k : Nat), k + m = 4 → Rn mX0_sameFrom 2 0 0 (cW tb tl tc tn fc ff fs ft fu fw fy fd dc dp dq (nI n) dm ec ep eq en em ik lr ln ly wh wr wf wb wn wc ws wa pw pf pl ta, R) (some (.int (nI (sfx dc n i m k)))) (cW tb tl tc tn fc ff fs ft fu fw fy fd dc dp dq (nI n) dm ec ep eq en em ik lr ln ly wh wr wf wb wn wc ws wa pw pf pl ta, R) 0 0 4 [some (.ref 11), some (.int (nI i)), some (.int (nI (i + k)))] [] (cW tb tl tc tn fc ff fs ft fu fw fy fd dc dp dq (nI n) dm ec ep eq en em ik lr ln ly wh wr wf wb wn wc ws wa pw pf pl ta, R) := by
    intro m
    induction m with
    | zero =>
      intro k hk
      have hz : i + k - i = k := by omega
      refine r_iload_n dX0_sameFrom_4 rfl ?_
      refine r_aload_n dX0_sameFrom_5 rfl ?_
      refine r_get dX0_sameFrom_6 fX0_20 rfl rfl ?_
      refine r_icmp_geN 38 dX0_sameFrom_9 (by decide) (by omega) (by omega) (fun h9 => ?_) (fun h9 => ?_)
      · refine r_pc 38 rfl ?_
        refine r_iload_n dX0_sameFrom_38 rfl ?_
        refine r_iload_n dX0_sameFrom_39 rfl ?_
        refine r_isubN dX0_sameFrom_40 (by omega) ?_
        rw [hz]
        exact r_iret dX0_sameFrom_41 rfl rfl rfl
      · refine r_pc 12 rfl ?_
        refine r_iload_n dX0_sameFrom_12 rfl ?_
        refine r_iload_n dX0_sameFrom_13 rfl ?_
        refine r_iconst (v := (nI 4)) dX0_sameFrom_14 (by decide) ?_
        refine r_iaddN dX0_sameFrom_15 ?_
        refine r_icmp_geN 38 dX0_sameFrom_16 (by decide) (by omega) (by omega) (fun h16 => ?_) (fun h16 => ?_)
        · refine r_pc 38 rfl ?_
          refine r_iload_n dX0_sameFrom_38 rfl ?_
          refine r_iload_n dX0_sameFrom_39 rfl ?_
          refine r_isubN dX0_sameFrom_40 (by omega) ?_
          rw [hz]
          exact r_iret dX0_sameFrom_41 rfl rfl rfl
        · exact absurd h16 (by omega)
    | succ m ih =>
      intro k hk
      have hz : i + k - i = k := by omega
      unfold sfx
      refine r_iload_n dX0_sameFrom_4 rfl ?_
      refine r_aload_n dX0_sameFrom_5 rfl ?_
      refine r_get dX0_sameFrom_6 fX0_20 rfl rfl ?_
      refine r_icmp_geN 38 dX0_sameFrom_9 (by decide) (by omega) (by omega) (fun h9 => ?_) (fun h9 => ?_)
      · rw [if_neg (fun q => by omega)]
        refine r_pc 38 rfl ?_
        refine r_iload_n dX0_sameFrom_38 rfl ?_
        refine r_iload_n dX0_sameFrom_39 rfl ?_
        refine r_isubN dX0_sameFrom_40 (by omega) ?_
        rw [hz]
        exact r_iret dX0_sameFrom_41 rfl rfl rfl
      · refine r_pc 12 rfl ?_
        refine r_iload_n dX0_sameFrom_12 rfl ?_
        refine r_iload_n dX0_sameFrom_13 rfl ?_
        refine r_iconst (v := (nI 4)) dX0_sameFrom_14 (by decide) ?_
        refine r_iaddN dX0_sameFrom_15 ?_
        refine r_icmp_geN 38 dX0_sameFrom_16 (by decide) (by omega) (by omega) (fun h16 => ?_) (fun h16 => ?_)
        · exact absurd h16 (by omega)
        · refine r_pc 19 rfl ?_
          refine r_aload_n dX0_sameFrom_19 rfl ?_
          refine r_iload_n dX0_sameFrom_20 rfl ?_
          refine r_cV dX0_sameFrom_21 (s_codeAtD hn (by omega)) lX0_47 rfl rfl rfl (by decide) ⟨Nat.le_refl _, Nat.le_refl _⟩ (Nat.le_of_ble_eq_true rfl) ?_
          refine r_aload_n dX0_sameFrom_24 rfl ?_
          refine r_iload_n dX0_sameFrom_25 rfl ?_
          refine r_pc 26 rfl ?_
          refine r_cV dX0_sameFrom_26 (s_codeAtD hn hi) lX0_47 rfl rfl rfl (by decide) ⟨Nat.le_refl _, Nat.le_refl _⟩ (Nat.le_of_ble_eq_true rfl) ?_
          refine r_icmp_ne 38 dX0_sameFrom_29 (by decide) (fun h29 => ?_) (fun h29 => ?_)
          · rw [if_neg (fun q => h29 q.2)]
            refine r_pc 38 rfl ?_
            refine r_iload_n dX0_sameFrom_38 rfl ?_
            refine r_iload_n dX0_sameFrom_39 rfl ?_
            refine r_isubN dX0_sameFrom_40 (by omega) ?_
            rw [hz]
            exact r_iret dX0_sameFrom_41 rfl rfl rfl
          · rw [if_pos ⟨h9, h29⟩]
            refine r_pc 32 rfl ?_
            refine r_inc1 (ls' := [_, _, _]) dX0_sameFrom_32 (by decide) rfl rfl ?_
            refine r_goto 4 dX0_sameFrom_35 (by decide) ?_
            refine r_pc 4 rfl ?_
            exact ih (k + 1) (by omega)
  refine r_iload_n dX0_sameFrom_0 rfl ?_
  refine r_iconst (v := (nI 1)) dX0_sameFrom_1 (by decide) ?_
  refine r_iaddN dX0_sameFrom_2 ?_
  refine r_istore_n (ls' := [_, _, _]) dX0_sameFrom_3 (by decide) rfl ?_
  refine r_pc 4 rfl ?_
  exact L 3 1 (by omega)
theorem s_clearF : Sem mX1_clear 1 0 0 [.ref 19] (cW tb tl tc tn fc ff fs ft fu fw fy fd dc dp dq dn dm ec ep eq en em ik lr ln ly wh wr wf wb wn wc ws wa pw pf pl ta, R) none (cW tb tl tc tn fc ff fs ft fu fw fy fd dc dp dq dn dm ec ep eq en em ik lr (nI 0) (nI 0) wh wr wf wb wn wc ws wa pw pf pl ta, R) := by
  refine sem_of (by decide) (Nat.le_of_ble_eq_true rfl) rfl ?_
  refine r_aload_n dX1_clear_0 rfl ?_
  refine r_iconst (v := (nI 0)) dX1_clear_1 (by decide) ?_
  refine r_put (w2 := (cW _ _ _ _ _ _ _ _ _ _ _ _ _ _ _ _ _ _ _ _ _ _ _ _ _ _ _ _ _ _ _ _ _ _ _ _ _ _, _)) dX1_clear_2 fX1_15 rfl rfl (Nat.le_of_ble_eq_true rfl) (fun _ => rfl) (fun _ => rfl) rfl ?_
  refine r_aload_n dX1_clear_5 rfl ?_
  refine r_iconst (v := (nI 0)) dX1_clear_6 (by decide) ?_
  refine r_pc 7 rfl ?_
  refine r_put (w2 := (cW _ _ _ _ _ _ _ _ _ _ _ _ _ _ _ _ _ _ _ _ _ _ _ _ _ _ _ _ _ _ _ _ _ _ _ _ _ _, _)) dX1_clear_7 fX1_19 rfl rfl (Nat.le_of_ble_eq_true rfl) (fun _ => rfl) (fun _ => rfl) rfl ?_
  exact r_vret dX1_clear_10 rfl rfl rfl
theorem s_has {n i : Nat} (hn : n ≤ 8) (hi : i < 2 ^ 31) : Sem mX1_has 1 0 0 [.ref 19, .int (nI i)] (cW tb tl tc tn fc ff fs ft fu fw fy fd dc dp dq dn dm ec ep eq en em ik lr (nI n) ly wh wr wf wb wn wc ws wa pw pf pl ta, R) (some (.int (bI (decide (i < n))))) (cW tb tl tc tn fc ff fs ft fu fw fy fd dc dp dq dn dm ec ep eq en em ik lr (nI n) ly wh wr wf wb wn wc ws wa pw pf pl ta, R) := by
  refine sem_of (by decide) (Nat.le_of_ble_eq_true rfl) rfl ?_
  refine r_iload_n dX1_has_0 rfl ?_
  refine r_if_lt 16 dX1_has_1 (by decide) (fun h1 => ?_) (fun h1 => ?_)
  · exact absurd h1 (nI_pos (by omega))
  · refine r_pc 4 rfl ?_
    refine r_iload_n dX1_has_4 rfl ?_
    refine r_aload_n dX1_has_5 rfl ?_
    refine r_get dX1_has_6 fX1_15 rfl rfl ?_
    refine r_icmp_geN 16 dX1_has_9 (by decide) (by omega) (by omega) (fun h9 => ?_) (fun h9 => ?_)
    · have h9 : ¬ i < n := by omega
      refine r_pc 16 rfl ?_
      refine r_iconst (v := (nI 0)) dX1_has_16 (by decide) ?_
      exact r_zret dX1_has_17 rfl rfl (by simp [bI, h9]) rfl
    · refine r_pc 12 rfl ?_
      refine r_iconst (v := (nI 1)) dX1_has_12 (by decide) ?_
      refine r_goto 17 dX1_has_13 (by decide) ?_
      exact r_zret dX1_has_17 rfl rfl (by simp [bI, h9]) rfl
end D1
end
