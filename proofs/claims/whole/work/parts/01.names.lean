-- ===== PART A: goes FIRST, ahead of the names: the tables' words, and 'selects' of the private methods out of them =====
/-- a private method of a class that the tables say can be made, by its rows of tables_1 -/
def lw_okq (q : MethodName × Nat) : Prop := (q.1.cls ≠ "java/lang/invoke/MethodHandle" ∧ q.1.cls ≠ "java/lang/invoke/VarHandle") ∧ Cond.instantiable q.1.cls q.2 ∈ tables_1 ∧ Cond.privateMethod q.1 ∈ tables_1 ∧ Cond.instanceMethod q.1 ∈ tables_1
theorem lw_p0 : lw_okq (⟨"LoftGraves$Custom", "add", "(I)V"⟩, 2) := ⟨⟨by decide +kernel, by decide +kernel⟩, List.mem_of_getElem? (i := 52) (by decide +kernel), List.mem_of_getElem? (i := 202) (by decide +kernel), List.mem_of_getElem? (i := 203) (by decide +kernel)⟩
theorem lw_p1 : lw_okq (⟨"LoftGraves$Parish", "settle", "()V"⟩, 16) := ⟨⟨by decide +kernel, by decide +kernel⟩, List.mem_of_getElem? (i := 69) (by decide +kernel), List.mem_of_getElem? (i := 209) (by decide +kernel), List.mem_of_getElem? (i := 210) (by decide +kernel)⟩
theorem lw_p2 : lw_okq (⟨"LoftGraves$Text", "append", "(I)V"⟩, 5) := ⟨⟨by decide +kernel, by decide +kernel⟩, List.mem_of_getElem? (i := 24) (by decide +kernel), List.mem_of_getElem? (i := 263) (by decide +kernel), List.mem_of_getElem? (i := 264) (by decide +kernel)⟩
theorem lw_p3 : lw_okq (⟨"LoftGraves$Parish", "readFrom", "(LLoftGraves$Text;)V"⟩, 16) := ⟨⟨by decide +kernel, by decide +kernel⟩, List.mem_of_getElem? (i := 69) (by decide +kernel), List.mem_of_getElem? (i := 271) (by decide +kernel), List.mem_of_getElem? (i := 272) (by decide +kernel)⟩
theorem lw_p4 : lw_okq (⟨"LoftGraves$Text", "begin", "()V"⟩, 5) := ⟨⟨by decide +kernel, by decide +kernel⟩, List.mem_of_getElem? (i := 24) (by decide +kernel), List.mem_of_getElem? (i := 275) (by decide +kernel), List.mem_of_getElem? (i := 276) (by decide +kernel)⟩
theorem lw_p5 : lw_okq (⟨"LoftGraves$Text", "goesOn", "()Z"⟩, 5) := ⟨⟨by decide +kernel, by decide +kernel⟩, List.mem_of_getElem? (i := 24) (by decide +kernel), List.mem_of_getElem? (i := 279) (by decide +kernel), List.mem_of_getElem? (i := 280) (by decide +kernel)⟩
theorem lw_p6 : lw_okq (⟨"LoftGraves$Text", "skipBlanks", "()V"⟩, 5) := ⟨⟨by decide +kernel, by decide +kernel⟩, List.mem_of_getElem? (i := 24) (by decide +kernel), List.mem_of_getElem? (i := 283) (by decide +kernel), List.mem_of_getElem? (i := 284) (by decide +kernel)⟩
theorem lw_p7 : lw_okq (⟨"LoftGraves$Text", "byteAt", "(I)I"⟩, 5) := ⟨⟨by decide +kernel, by decide +kernel⟩, List.mem_of_getElem? (i := 24) (by decide +kernel), List.mem_of_getElem? (i := 287) (by decide +kernel), List.mem_of_getElem? (i := 288) (by decide +kernel)⟩
theorem lw_p8 : lw_okq (⟨"LoftGraves$Parish", "readClause", "(LLoftGraves$Text;)V"⟩, 16) := ⟨⟨by decide +kernel, by decide +kernel⟩, List.mem_of_getElem? (i := 69) (by decide +kernel), List.mem_of_getElem? (i := 291) (by decide +kernel), List.mem_of_getElem? (i := 292) (by decide +kernel)⟩
theorem lw_p9 : lw_okq (⟨"LoftGraves$Text", "takeWord", "(Ljava/lang/String;)Z"⟩, 5) := ⟨⟨by decide +kernel, by decide +kernel⟩, List.mem_of_getElem? (i := 24) (by decide +kernel), List.mem_of_getElem? (i := 296) (by decide +kernel), List.mem_of_getElem? (i := 297) (by decide +kernel)⟩
theorem lw_p10 : lw_okq (⟨"LoftGraves$Parish", "readSun", "(LLoftGraves$Text;I)V"⟩, 16) := ⟨⟨by decide +kernel, by decide +kernel⟩, List.mem_of_getElem? (i := 69) (by decide +kernel), List.mem_of_getElem? (i := 348) (by decide +kernel), List.mem_of_getElem? (i := 349) (by decide +kernel)⟩
theorem lw_p11 : lw_okq (⟨"LoftGraves$Text", "blame", "(II)V"⟩, 5) := ⟨⟨by decide +kernel, by decide +kernel⟩, List.mem_of_getElem? (i := 24) (by decide +kernel), List.mem_of_getElem? (i := 352) (by decide +kernel), List.mem_of_getElem? (i := 353) (by decide +kernel)⟩
theorem lw_p12 : lw_okq (⟨"LoftGraves$Text", "takeNumber", "(II)I"⟩, 5) := ⟨⟨by decide +kernel, by decide +kernel⟩, List.mem_of_getElem? (i := 24) (by decide +kernel), List.mem_of_getElem? (i := 356) (by decide +kernel), List.mem_of_getElem? (i := 357) (by decide +kernel)⟩
theorem lw_p13 : lw_okq (⟨"LoftGraves$Text", "takeStop", "()V"⟩, 5) := ⟨⟨by decide +kernel, by decide +kernel⟩, List.mem_of_getElem? (i := 24) (by decide +kernel), List.mem_of_getElem? (i := 361) (by decide +kernel), List.mem_of_getElem? (i := 362) (by decide +kernel)⟩
theorem lw_p14 : lw_okq (⟨"LoftGraves$Parish", "readYard", "(LLoftGraves$Text;I)V"⟩, 16) := ⟨⟨by decide +kernel, by decide +kernel⟩, List.mem_of_getElem? (i := 69) (by decide +kernel), List.mem_of_getElem? (i := 366) (by decide +kernel), List.mem_of_getElem? (i := 367) (by decide +kernel)⟩
theorem lw_p15 : lw_okq (⟨"LoftGraves$Parish", "readDead", "(LLoftGraves$Text;I)V"⟩, 16) := ⟨⟨by decide +kernel, by decide +kernel⟩, List.mem_of_getElem? (i := 69) (by decide +kernel), List.mem_of_getElem? (i := 371) (by decide +kernel), List.mem_of_getElem? (i := 372) (by decide +kernel)⟩
def lw_privs_1 : List (MethodName × Nat) := [(⟨"LoftGraves$Custom", "add", "(I)V"⟩, 2), (⟨"LoftGraves$Parish", "settle", "()V"⟩, 16), (⟨"LoftGraves$Text", "append", "(I)V"⟩, 5), (⟨"LoftGraves$Parish", "readFrom", "(LLoftGraves$Text;)V"⟩, 16), (⟨"LoftGraves$Text", "begin", "()V"⟩, 5), (⟨"LoftGraves$Text", "goesOn", "()Z"⟩, 5), (⟨"LoftGraves$Text", "skipBlanks", "()V"⟩, 5), (⟨"LoftGraves$Text", "byteAt", "(I)I"⟩, 5), (⟨"LoftGraves$Parish", "readClause", "(LLoftGraves$Text;)V"⟩, 16), (⟨"LoftGraves$Text", "takeWord", "(Ljava/lang/String;)Z"⟩, 5), (⟨"LoftGraves$Parish", "readSun", "(LLoftGraves$Text;I)V"⟩, 16), (⟨"LoftGraves$Text", "blame", "(II)V"⟩, 5), (⟨"LoftGraves$Text", "takeNumber", "(II)I"⟩, 5), (⟨"LoftGraves$Text", "takeStop", "()V"⟩, 5), (⟨"LoftGraves$Parish", "readYard", "(LLoftGraves$Text;I)V"⟩, 16), (⟨"LoftGraves$Parish", "readDead", "(LLoftGraves$Text;I)V"⟩, 16)]
theorem lw_r1 : ∀ q ∈ lw_privs_1, lw_okq q := List.forall_mem_cons.mpr ⟨lw_p0, List.forall_mem_cons.mpr ⟨lw_p1, List.forall_mem_cons.mpr ⟨lw_p2, List.forall_mem_cons.mpr ⟨lw_p3, List.forall_mem_cons.mpr ⟨lw_p4, List.forall_mem_cons.mpr ⟨lw_p5, List.forall_mem_cons.mpr ⟨lw_p6, List.forall_mem_cons.mpr ⟨lw_p7, List.forall_mem_cons.mpr ⟨lw_p8, List.forall_mem_cons.mpr ⟨lw_p9, List.forall_mem_cons.mpr ⟨lw_p10, List.forall_mem_cons.mpr ⟨lw_p11, List.forall_mem_cons.mpr ⟨lw_p12, List.forall_mem_cons.mpr ⟨lw_p13, List.forall_mem_cons.mpr ⟨lw_p14, List.forall_mem_cons.mpr ⟨lw_p15, fun _ h => absurd h List.not_mem_nil⟩⟩⟩⟩⟩⟩⟩⟩⟩⟩⟩⟩⟩⟩⟩⟩
theorem lw_p16 : lw_okq (⟨"LoftGraves$Parish", "copyFrom", "(LLoftGraves$Parish;)V"⟩, 16) := ⟨⟨by decide +kernel, by decide +kernel⟩, List.mem_of_getElem? (i := 69) (by decide +kernel), List.mem_of_getElem? (i := 375) (by decide +kernel), List.mem_of_getElem? (i := 376) (by decide +kernel)⟩
theorem lw_p17 : lw_okq (⟨"LoftGraves$Custom", "readFrom", "(LLoftGraves$Text;)V"⟩, 2) := ⟨⟨by decide +kernel, by decide +kernel⟩, List.mem_of_getElem? (i := 52) (by decide +kernel), List.mem_of_getElem? (i := 390) (by decide +kernel), List.mem_of_getElem? (i := 391) (by decide +kernel)⟩
theorem lw_p18 : lw_okq (⟨"LoftGraves$Custom", "readClause", "(LLoftGraves$Text;)V"⟩, 2) := ⟨⟨by decide +kernel, by decide +kernel⟩, List.mem_of_getElem? (i := 52) (by decide +kernel), List.mem_of_getElem? (i := 396) (by decide +kernel), List.mem_of_getElem? (i := 397) (by decide +kernel)⟩
theorem lw_p19 : lw_okq (⟨"LoftGraves$Custom", "counts", "(I)Z"⟩, 2) := ⟨⟨by decide +kernel, by decide +kernel⟩, List.mem_of_getElem? (i := 52) (by decide +kernel), List.mem_of_getElem? (i := 406) (by decide +kernel), List.mem_of_getElem? (i := 407) (by decide +kernel)⟩
theorem lw_p20 : lw_okq (⟨"LoftGraves$Custom", "copyFrom", "(LLoftGraves$Custom;)V"⟩, 2) := ⟨⟨by decide +kernel, by decide +kernel⟩, List.mem_of_getElem? (i := 52) (by decide +kernel), List.mem_of_getElem? (i := 413) (by decide +kernel), List.mem_of_getElem? (i := 414) (by decide +kernel)⟩
theorem lw_p21 : lw_okq (⟨"LoftGraves$Parish", "waiting", "()I"⟩, 16) := ⟨⟨by decide +kernel, by decide +kernel⟩, List.mem_of_getElem? (i := 69) (by decide +kernel), List.mem_of_getElem? (i := 426) (by decide +kernel), List.mem_of_getElem? (i := 427) (by decide +kernel)⟩
theorem lw_p22 : lw_okq (⟨"LoftGraves$Parish", "laid", "()I"⟩, 16) := ⟨⟨by decide +kernel, by decide +kernel⟩, List.mem_of_getElem? (i := 69) (by decide +kernel), List.mem_of_getElem? (i := 430) (by decide +kernel), List.mem_of_getElem? (i := 431) (by decide +kernel)⟩
theorem lw_p23 : lw_okq (⟨"LoftGraves$Parish", "hasYard", "(I)Z"⟩, 16) := ⟨⟨by decide +kernel, by decide +kernel⟩, List.mem_of_getElem? (i := 69) (by decide +kernel), List.mem_of_getElem? (i := 441) (by decide +kernel), List.mem_of_getElem? (i := 442) (by decide +kernel)⟩
theorem lw_p24 : lw_okq (⟨"LoftGraves$Parish", "whoLiesIn", "(I)I"⟩, 16) := ⟨⟨by decide +kernel, by decide +kernel⟩, List.mem_of_getElem? (i := 69) (by decide +kernel), List.mem_of_getElem? (i := 446) (by decide +kernel), List.mem_of_getElem? (i := 447) (by decide +kernel)⟩
theorem lw_p25 : lw_okq (⟨"LoftGraves$Parish", "hasDead", "(I)Z"⟩, 16) := ⟨⟨by decide +kernel, by decide +kernel⟩, List.mem_of_getElem? (i := 69) (by decide +kernel), List.mem_of_getElem? (i := 454) (by decide +kernel), List.mem_of_getElem? (i := 455) (by decide +kernel)⟩
theorem lw_p26 : lw_okq (⟨"LoftGraves$Parish", "placeAmong", "(LLoftGraves$Custom;II)I"⟩, 16) := ⟨⟨by decide +kernel, by decide +kernel⟩, List.mem_of_getElem? (i := 69) (by decide +kernel), List.mem_of_getElem? (i := 465) (by decide +kernel), List.mem_of_getElem? (i := 466) (by decide +kernel)⟩
theorem lw_p27 : lw_okq (⟨"LoftGraves$Parish", "urgentClaim", "(LLoftGraves$Custom;I)J"⟩, 16) := ⟨⟨by decide +kernel, by decide +kernel⟩, List.mem_of_getElem? (i := 69) (by decide +kernel), List.mem_of_getElem? (i := 469) (by decide +kernel), List.mem_of_getElem? (i := 470) (by decide +kernel)⟩
theorem lw_p28 : lw_okq (⟨"LoftGraves$Parish", "claim", "(LLoftGraves$Custom;I)J"⟩, 16) := ⟨⟨by decide +kernel, by decide +kernel⟩, List.mem_of_getElem? (i := 69) (by decide +kernel), List.mem_of_getElem? (i := 473) (by decide +kernel), List.mem_of_getElem? (i := 474) (by decide +kernel)⟩
theorem lw_p29 : lw_okq (⟨"LoftGraves$Parish", "worth", "(II)I"⟩, 16) := ⟨⟨by decide +kernel, by decide +kernel⟩, List.mem_of_getElem? (i := 69) (by decide +kernel), List.mem_of_getElem? (i := 478) (by decide +kernel), List.mem_of_getElem? (i := 479) (by decide +kernel)⟩
theorem lw_p30 : lw_okq (⟨"LoftGraves$Parish", "passDay", "(I)V"⟩, 16) := ⟨⟨by decide +kernel, by decide +kernel⟩, List.mem_of_getElem? (i := 69) (by decide +kernel), List.mem_of_getElem? (i := 506) (by decide +kernel), List.mem_of_getElem? (i := 507) (by decide +kernel)⟩
theorem lw_p31 : lw_okq (⟨"LoftGraves$Parish", "taken", "()I"⟩, 16) := ⟨⟨by decide +kernel, by decide +kernel⟩, List.mem_of_getElem? (i := 69) (by decide +kernel), List.mem_of_getElem? (i := 510) (by decide +kernel), List.mem_of_getElem? (i := 511) (by decide +kernel)⟩
def lw_privs_2 : List (MethodName × Nat) := [(⟨"LoftGraves$Parish", "copyFrom", "(LLoftGraves$Parish;)V"⟩, 16), (⟨"LoftGraves$Custom", "readFrom", "(LLoftGraves$Text;)V"⟩, 2), (⟨"LoftGraves$Custom", "readClause", "(LLoftGraves$Text;)V"⟩, 2), (⟨"LoftGraves$Custom", "counts", "(I)Z"⟩, 2), (⟨"LoftGraves$Custom", "copyFrom", "(LLoftGraves$Custom;)V"⟩, 2), (⟨"LoftGraves$Parish", "waiting", "()I"⟩, 16), (⟨"LoftGraves$Parish", "laid", "()I"⟩, 16), (⟨"LoftGraves$Parish", "hasYard", "(I)Z"⟩, 16), (⟨"LoftGraves$Parish", "whoLiesIn", "(I)I"⟩, 16), (⟨"LoftGraves$Parish", "hasDead", "(I)Z"⟩, 16), (⟨"LoftGraves$Parish", "placeAmong", "(LLoftGraves$Custom;II)I"⟩, 16), (⟨"LoftGraves$Parish", "urgentClaim", "(LLoftGraves$Custom;I)J"⟩, 16), (⟨"LoftGraves$Parish", "claim", "(LLoftGraves$Custom;I)J"⟩, 16), (⟨"LoftGraves$Parish", "worth", "(II)I"⟩, 16), (⟨"LoftGraves$Parish", "passDay", "(I)V"⟩, 16), (⟨"LoftGraves$Parish", "taken", "()I"⟩, 16)]
theorem lw_r2 : ∀ q ∈ lw_privs_2, lw_okq q := List.forall_mem_cons.mpr ⟨lw_p16, List.forall_mem_cons.mpr ⟨lw_p17, List.forall_mem_cons.mpr ⟨lw_p18, List.forall_mem_cons.mpr ⟨lw_p19, List.forall_mem_cons.mpr ⟨lw_p20, List.forall_mem_cons.mpr ⟨lw_p21, List.forall_mem_cons.mpr ⟨lw_p22, List.forall_mem_cons.mpr ⟨lw_p23, List.forall_mem_cons.mpr ⟨lw_p24, List.forall_mem_cons.mpr ⟨lw_p25, List.forall_mem_cons.mpr ⟨lw_p26, List.forall_mem_cons.mpr ⟨lw_p27, List.forall_mem_cons.mpr ⟨lw_p28, List.forall_mem_cons.mpr ⟨lw_p29, List.forall_mem_cons.mpr ⟨lw_p30, List.forall_mem_cons.mpr ⟨lw_p31, fun _ h => absurd h List.not_mem_nil⟩⟩⟩⟩⟩⟩⟩⟩⟩⟩⟩⟩⟩⟩⟩⟩
theorem lw_p32 : lw_okq (⟨"LoftGraves$Parish", "thawOf", "(II)I"⟩, 16) := ⟨⟨by decide +kernel, by decide +kernel⟩, List.mem_of_getElem? (i := 69) (by decide +kernel), List.mem_of_getElem? (i := 514) (by decide +kernel), List.mem_of_getElem? (i := 515) (by decide +kernel)⟩
theorem lw_p33 : lw_okq (⟨"LoftGraves$Parish", "soft", "()I"⟩, 16) := ⟨⟨by decide +kernel, by decide +kernel⟩, List.mem_of_getElem? (i := 69) (by decide +kernel), List.mem_of_getElem? (i := 523) (by decide +kernel), List.mem_of_getElem? (i := 524) (by decide +kernel)⟩
theorem lw_p34 : lw_okq (⟨"LoftGraves$Parish", "passNight", "(I)V"⟩, 16) := ⟨⟨by decide +kernel, by decide +kernel⟩, List.mem_of_getElem? (i := 69) (by decide +kernel), List.mem_of_getElem? (i := 531) (by decide +kernel), List.mem_of_getElem? (i := 532) (by decide +kernel)⟩
theorem lw_p35 : lw_okq (⟨"LoftGraves$Parish", "draw", "(I)I"⟩, 16) := ⟨⟨by decide +kernel, by decide +kernel⟩, List.mem_of_getElem? (i := 69) (by decide +kernel), List.mem_of_getElem? (i := 535) (by decide +kernel), List.mem_of_getElem? (i := 536) (by decide +kernel)⟩
theorem lw_p36 : lw_okq (⟨"LoftGraves$Parish", "boardless", "()I"⟩, 16) := ⟨⟨by decide +kernel, by decide +kernel⟩, List.mem_of_getElem? (i := 69) (by decide +kernel), List.mem_of_getElem? (i := 543) (by decide +kernel), List.mem_of_getElem? (i := 544) (by decide +kernel)⟩
theorem lw_p37 : lw_okq (⟨"LoftGraves$Parish", "layDown", "(II)I"⟩, 16) := ⟨⟨by decide +kernel, by decide +kernel⟩, List.mem_of_getElem? (i := 69) (by decide +kernel), List.mem_of_getElem? (i := 552) (by decide +kernel), List.mem_of_getElem? (i := 553) (by decide +kernel)⟩
theorem lw_p38 : lw_okq (⟨"LoftGraves", "useSpades", "(I)V"⟩, 12) := ⟨⟨by decide +kernel, by decide +kernel⟩, List.mem_of_getElem? (i := 16) (by decide +kernel), List.mem_of_getElem? (i := 561) (by decide +kernel), List.mem_of_getElem? (i := 562) (by decide +kernel)⟩
theorem lw_p39 : lw_okq (⟨"LoftGraves$Parish", "firstAmong", "(LLoftGraves$Custom;I)I"⟩, 16) := ⟨⟨by decide +kernel, by decide +kernel⟩, List.mem_of_getElem? (i := 69) (by decide +kernel), List.mem_of_getElem? (i := 565) (by decide +kernel), List.mem_of_getElem? (i := 566) (by decide +kernel)⟩
theorem lw_p40 : lw_okq (⟨"LoftGraves$Parish", "softAndFree", "()I"⟩, 16) := ⟨⟨by decide +kernel, by decide +kernel⟩, List.mem_of_getElem? (i := 69) (by decide +kernel), List.mem_of_getElem? (i := 570) (by decide +kernel), List.mem_of_getElem? (i := 571) (by decide +kernel)⟩
theorem lw_p41 : lw_okq (⟨"LoftGraves$Plan", "begin", "(LLoftGraves$Parish;LLoftGraves$Custom;)V"⟩, 6) := ⟨⟨by decide +kernel, by decide +kernel⟩, List.mem_of_getElem? (i := 164) (by decide +kernel), List.mem_of_getElem? (i := 589) (by decide +kernel), List.mem_of_getElem? (i := 590) (by decide +kernel)⟩
theorem lw_p42 : lw_okq (⟨"LoftGraves$Plan", "whoOffends", "(I)I"⟩, 6) := ⟨⟨by decide +kernel, by decide +kernel⟩, List.mem_of_getElem? (i := 164) (by decide +kernel), List.mem_of_getElem? (i := 598) (by decide +kernel), List.mem_of_getElem? (i := 599) (by decide +kernel)⟩
theorem lw_p43 : lw_okq (⟨"LoftGraves$Plan", "offends", "(II)Z"⟩, 6) := ⟨⟨by decide +kernel, by decide +kernel⟩, List.mem_of_getElem? (i := 164) (by decide +kernel), List.mem_of_getElem? (i := 602) (by decide +kernel), List.mem_of_getElem? (i := 603) (by decide +kernel)⟩
theorem lw_p44 : lw_okq (⟨"LoftGraves$Plan", "quarrelsNow", "()I"⟩, 6) := ⟨⟨by decide +kernel, by decide +kernel⟩, List.mem_of_getElem? (i := 164) (by decide +kernel), List.mem_of_getElem? (i := 611) (by decide +kernel), List.mem_of_getElem? (i := 612) (by decide +kernel)⟩
theorem lw_p45 : lw_okq (⟨"LoftGraves$Plan", "quarrelsAmong", "(II)I"⟩, 6) := ⟨⟨by decide +kernel, by decide +kernel⟩, List.mem_of_getElem? (i := 164) (by decide +kernel), List.mem_of_getElem? (i := 615) (by decide +kernel), List.mem_of_getElem? (i := 616) (by decide +kernel)⟩
theorem lw_p46 : lw_okq (⟨"LoftGraves$Plan", "quarrelsOf", "(II)I"⟩, 6) := ⟨⟨by decide +kernel, by decide +kernel⟩, List.mem_of_getElem? (i := 164) (by decide +kernel), List.mem_of_getElem? (i := 619) (by decide +kernel), List.mem_of_getElem? (i := 620) (by decide +kernel)⟩
theorem lw_p47 : lw_okq (⟨"LoftGraves$Plan", "find", "(II)V"⟩, 6) := ⟨⟨by decide +kernel, by decide +kernel⟩, List.mem_of_getElem? (i := 164) (by decide +kernel), List.mem_of_getElem? (i := 630) (by decide +kernel), List.mem_of_getElem? (i := 631) (by decide +kernel)⟩
def lw_privs_3 : List (MethodName × Nat) := [(⟨"LoftGraves$Parish", "thawOf", "(II)I"⟩, 16), (⟨"LoftGraves$Parish", "soft", "()I"⟩, 16), (⟨"LoftGraves$Parish", "passNight", "(I)V"⟩, 16), (⟨"LoftGraves$Parish", "draw", "(I)I"⟩, 16), (⟨"LoftGraves$Parish", "boardless", "()I"⟩, 16), (⟨"LoftGraves$Parish", "layDown", "(II)I"⟩, 16), (⟨"LoftGraves", "useSpades", "(I)V"⟩, 12), (⟨"LoftGraves$Parish", "firstAmong", "(LLoftGraves$Custom;I)I"⟩, 16), (⟨"LoftGraves$Parish", "softAndFree", "()I"⟩, 16), (⟨"LoftGraves$Plan", "begin", "(LLoftGraves$Parish;LLoftGraves$Custom;)V"⟩, 6), (⟨"LoftGraves$Plan", "whoOffends", "(I)I"⟩, 6), (⟨"LoftGraves$Plan", "offends", "(II)Z"⟩, 6), (⟨"LoftGraves$Plan", "quarrelsNow", "()I"⟩, 6), (⟨"LoftGraves$Plan", "quarrelsAmong", "(II)I"⟩, 6), (⟨"LoftGraves$Plan", "quarrelsOf", "(II)I"⟩, 6), (⟨"LoftGraves$Plan", "find", "(II)V"⟩, 6)]
theorem lw_r3 : ∀ q ∈ lw_privs_3, lw_okq q := List.forall_mem_cons.mpr ⟨lw_p32, List.forall_mem_cons.mpr ⟨lw_p33, List.forall_mem_cons.mpr ⟨lw_p34, List.forall_mem_cons.mpr ⟨lw_p35, List.forall_mem_cons.mpr ⟨lw_p36, List.forall_mem_cons.mpr ⟨lw_p37, List.forall_mem_cons.mpr ⟨lw_p38, List.forall_mem_cons.mpr ⟨lw_p39, List.forall_mem_cons.mpr ⟨lw_p40, List.forall_mem_cons.mpr ⟨lw_p41, List.forall_mem_cons.mpr ⟨lw_p42, List.forall_mem_cons.mpr ⟨lw_p43, List.forall_mem_cons.mpr ⟨lw_p44, List.forall_mem_cons.mpr ⟨lw_p45, List.forall_mem_cons.mpr ⟨lw_p46, List.forall_mem_cons.mpr ⟨lw_p47, fun _ h => absurd h List.not_mem_nil⟩⟩⟩⟩⟩⟩⟩⟩⟩⟩⟩⟩⟩⟩⟩⟩
theorem lw_p48 : lw_okq (⟨"LoftGraves$Parish", "daysUntilSoft", "(II)I"⟩, 16) := ⟨⟨by decide +kernel, by decide +kernel⟩, List.mem_of_getElem? (i := 69) (by decide +kernel), List.mem_of_getElem? (i := 644) (by decide +kernel), List.mem_of_getElem? (i := 645) (by decide +kernel)⟩
theorem lw_p49 : lw_okq (⟨"LoftGraves$Parish", "softBehind", "(II)I"⟩, 16) := ⟨⟨by decide +kernel, by decide +kernel⟩, List.mem_of_getElem? (i := 69) (by decide +kernel), List.mem_of_getElem? (i := 648) (by decide +kernel), List.mem_of_getElem? (i := 649) (by decide +kernel)⟩
theorem lw_p50 : lw_okq (⟨"LoftGraves", "leastBribe", "(II)I"⟩, 12) := ⟨⟨by decide +kernel, by decide +kernel⟩, List.mem_of_getElem? (i := 16) (by decide +kernel), List.mem_of_getElem? (i := 660) (by decide +kernel), List.mem_of_getElem? (i := 661) (by decide +kernel)⟩
theorem lw_p51 : lw_okq (⟨"LoftGraves$Naming", "countWays", "(LLoftGraves$Parish;)I"⟩, 1) := ⟨⟨by decide +kernel, by decide +kernel⟩, List.mem_of_getElem? (i := 192) (by decide +kernel), List.mem_of_getElem? (i := 677) (by decide +kernel), List.mem_of_getElem? (i := 678) (by decide +kernel)⟩
theorem lw_p52 : lw_okq (⟨"LoftGraves$Naming", "weigh", "(LLoftGraves$Parish;)V"⟩, 1) := ⟨⟨by decide +kernel, by decide +kernel⟩, List.mem_of_getElem? (i := 192) (by decide +kernel), List.mem_of_getElem? (i := 691) (by decide +kernel), List.mem_of_getElem? (i := 692) (by decide +kernel)⟩
theorem lw_p53 : lw_okq (⟨"LoftGraves$Naming", "changesWith", "(LLoftGraves$Parish;II)I"⟩, 1) := ⟨⟨by decide +kernel, by decide +kernel⟩, List.mem_of_getElem? (i := 192) (by decide +kernel), List.mem_of_getElem? (i := 695) (by decide +kernel), List.mem_of_getElem? (i := 696) (by decide +kernel)⟩
theorem lw_p54 : lw_okq (⟨"LoftGraves$Naming", "fewestChanges", "()I"⟩, 1) := ⟨⟨by decide +kernel, by decide +kernel⟩, List.mem_of_getElem? (i := 192) (by decide +kernel), List.mem_of_getElem? (i := 700) (by decide +kernel), List.mem_of_getElem? (i := 701) (by decide +kernel)⟩
theorem lw_p55 : lw_okq (⟨"LoftGraves$Naming", "nameOf", "(LLoftGraves$Parish;I)I"⟩, 1) := ⟨⟨by decide +kernel, by decide +kernel⟩, List.mem_of_getElem? (i := 192) (by decide +kernel), List.mem_of_getElem? (i := 704) (by decide +kernel), List.mem_of_getElem? (i := 705) (by decide +kernel)⟩
theorem lw_p56 : lw_okq (⟨"LoftGraves$Parish", "ranksOf", "(I)I"⟩, 16) := ⟨⟨by decide +kernel, by decide +kernel⟩, List.mem_of_getElem? (i := 69) (by decide +kernel), List.mem_of_getElem? (i := 712) (by decide +kernel), List.mem_of_getElem? (i := 713) (by decide +kernel)⟩
theorem lw_p57 : lw_okq (⟨"LoftGraves$Book", "add", "(II)V"⟩, 3) := ⟨⟨by decide +kernel, by decide +kernel⟩, List.mem_of_getElem? (i := 145) (by decide +kernel), List.mem_of_getElem? (i := 721) (by decide +kernel), List.mem_of_getElem? (i := 722) (by decide +kernel)⟩
theorem lw_p58 : lw_okq (⟨"LoftGravesModel", "start", "()V"⟩, 31) := ⟨⟨by decide +kernel, by decide +kernel⟩, List.mem_of_getElem? (i := 746) (by decide +kernel), List.mem_of_getElem? (i := 862) (by decide +kernel), List.mem_of_getElem? (i := 863) (by decide +kernel)⟩
theorem lw_p59 : lw_okq (⟨"LoftGravesModel", "here", "()I"⟩, 31) := ⟨⟨by decide +kernel, by decide +kernel⟩, List.mem_of_getElem? (i := 746) (by decide +kernel), List.mem_of_getElem? (i := 866) (by decide +kernel), List.mem_of_getElem? (i := 867) (by decide +kernel)⟩
theorem lw_p60 : lw_okq (⟨"LoftGravesModel", "takeClause", "()V"⟩, 31) := ⟨⟨by decide +kernel, by decide +kernel⟩, List.mem_of_getElem? (i := 746) (by decide +kernel), List.mem_of_getElem? (i := 870) (by decide +kernel), List.mem_of_getElem? (i := 871) (by decide +kernel)⟩
theorem lw_p61 : lw_okq (⟨"LoftGravesModel", "takeWord", "()V"⟩, 31) := ⟨⟨by decide +kernel, by decide +kernel⟩, List.mem_of_getElem? (i := 746) (by decide +kernel), List.mem_of_getElem? (i := 874) (by decide +kernel), List.mem_of_getElem? (i := 875) (by decide +kernel)⟩
theorem lw_p62 : lw_okq (⟨"LoftGravesModel", "isWord", "(IIIIII)Z"⟩, 31) := ⟨⟨by decide +kernel, by decide +kernel⟩, List.mem_of_getElem? (i := 746) (by decide +kernel), List.mem_of_getElem? (i := 880) (by decide +kernel), List.mem_of_getElem? (i := 881) (by decide +kernel)⟩
theorem lw_p63 : lw_okq (⟨"LoftGravesModel", "want", "(ZII)Z"⟩, 31) := ⟨⟨by decide +kernel, by decide +kernel⟩, List.mem_of_getElem? (i := 746) (by decide +kernel), List.mem_of_getElem? (i := 884) (by decide +kernel), List.mem_of_getElem? (i := 885) (by decide +kernel)⟩
def lw_privs_4 : List (MethodName × Nat) := [(⟨"LoftGraves$Parish", "daysUntilSoft", "(II)I"⟩, 16), (⟨"LoftGraves$Parish", "softBehind", "(II)I"⟩, 16), (⟨"LoftGraves", "leastBribe", "(II)I"⟩, 12), (⟨"LoftGraves$Naming", "countWays", "(LLoftGraves$Parish;)I"⟩, 1), (⟨"LoftGraves$Naming", "weigh", "(LLoftGraves$Parish;)V"⟩, 1), (⟨"LoftGraves$Naming", "changesWith", "(LLoftGraves$Parish;II)I"⟩, 1), (⟨"LoftGraves$Naming", "fewestChanges", "()I"⟩, 1), (⟨"LoftGraves$Naming", "nameOf", "(LLoftGraves$Parish;I)I"⟩, 1), (⟨"LoftGraves$Parish", "ranksOf", "(I)I"⟩, 16), (⟨"LoftGraves$Book", "add", "(II)V"⟩, 3), (⟨"LoftGravesModel", "start", "()V"⟩, 31), (⟨"LoftGravesModel", "here", "()I"⟩, 31), (⟨"LoftGravesModel", "takeClause", "()V"⟩, 31), (⟨"LoftGravesModel", "takeWord", "()V"⟩, 31), (⟨"LoftGravesModel", "isWord", "(IIIIII)Z"⟩, 31), (⟨"LoftGravesModel", "want", "(ZII)Z"⟩, 31)]
theorem lw_r4 : ∀ q ∈ lw_privs_4, lw_okq q := List.forall_mem_cons.mpr ⟨lw_p48, List.forall_mem_cons.mpr ⟨lw_p49, List.forall_mem_cons.mpr ⟨lw_p50, List.forall_mem_cons.mpr ⟨lw_p51, List.forall_mem_cons.mpr ⟨lw_p52, List.forall_mem_cons.mpr ⟨lw_p53, List.forall_mem_cons.mpr ⟨lw_p54, List.forall_mem_cons.mpr ⟨lw_p55, List.forall_mem_cons.mpr ⟨lw_p56, List.forall_mem_cons.mpr ⟨lw_p57, List.forall_mem_cons.mpr ⟨lw_p58, List.forall_mem_cons.mpr ⟨lw_p59, List.forall_mem_cons.mpr ⟨lw_p60, List.forall_mem_cons.mpr ⟨lw_p61, List.forall_mem_cons.mpr ⟨lw_p62, List.forall_mem_cons.mpr ⟨lw_p63, fun _ h => absurd h List.not_mem_nil⟩⟩⟩⟩⟩⟩⟩⟩⟩⟩⟩⟩⟩⟩⟩⟩
theorem lw_p64 : lw_okq (⟨"LoftGravesModel", "takeNumber", "(II)I"⟩, 31) := ⟨⟨by decide +kernel, by decide +kernel⟩, List.mem_of_getElem? (i := 746) (by decide +kernel), List.mem_of_getElem? (i := 888) (by decide +kernel), List.mem_of_getElem? (i := 889) (by decide +kernel)⟩
theorem lw_p65 : lw_okq (⟨"LoftGravesModel", "takeEnd", "()V"⟩, 31) := ⟨⟨by decide +kernel, by decide +kernel⟩, List.mem_of_getElem? (i := 746) (by decide +kernel), List.mem_of_getElem? (i := 895) (by decide +kernel), List.mem_of_getElem? (i := 896) (by decide +kernel)⟩
theorem lw_p66 : lw_okq (⟨"LoftGravesModel", "loft", "(I)I"⟩, 31) := ⟨⟨by decide +kernel, by decide +kernel⟩, List.mem_of_getElem? (i := 746) (by decide +kernel), List.mem_of_getElem? (i := 914) (by decide +kernel), List.mem_of_getElem? (i := 915) (by decide +kernel)⟩
theorem lw_p67 : lw_okq (⟨"LoftGravesModel", "isInLoft", "(II)Z"⟩, 31) := ⟨⟨by decide +kernel, by decide +kernel⟩, List.mem_of_getElem? (i := 746) (by decide +kernel), List.mem_of_getElem? (i := 918) (by decide +kernel), List.mem_of_getElem? (i := 919) (by decide +kernel)⟩
theorem lw_p68 : lw_okq (⟨"LoftGravesModel", "laid", "(I)I"⟩, 31) := ⟨⟨by decide +kernel, by decide +kernel⟩, List.mem_of_getElem? (i := 746) (by decide +kernel), List.mem_of_getElem? (i := 925) (by decide +kernel), List.mem_of_getElem? (i := 926) (by decide +kernel)⟩
theorem lw_p69 : lw_okq (⟨"LoftGravesModel", "isYard", "(I)Z"⟩, 31) := ⟨⟨by decide +kernel, by decide +kernel⟩, List.mem_of_getElem? (i := 746) (by decide +kernel), List.mem_of_getElem? (i := 933) (by decide +kernel), List.mem_of_getElem? (i := 934) (by decide +kernel)⟩
theorem lw_p70 : lw_okq (⟨"LoftGravesModel", "who", "(II)I"⟩, 31) := ⟨⟨by decide +kernel, by decide +kernel⟩, List.mem_of_getElem? (i := 746) (by decide +kernel), List.mem_of_getElem? (i := 938) (by decide +kernel), List.mem_of_getElem? (i := 939) (by decide +kernel)⟩
theorem lw_p71 : lw_okq (⟨"LoftGravesModel", "isDead", "(I)Z"⟩, 31) := ⟨⟨by decide +kernel, by decide +kernel⟩, List.mem_of_getElem? (i := 746) (by decide +kernel), List.mem_of_getElem? (i := 946) (by decide +kernel), List.mem_of_getElem? (i := 947) (by decide +kernel)⟩
theorem lw_p72 : lw_okq (⟨"LoftGravesModel", "inOrder", "(II)I"⟩, 31) := ⟨⟨by decide +kernel, by decide +kernel⟩, List.mem_of_getElem? (i := 746) (by decide +kernel), List.mem_of_getElem? (i := 954) (by decide +kernel), List.mem_of_getElem? (i := 955) (by decide +kernel)⟩
theorem lw_p73 : lw_okq (⟨"LoftGravesModel", "placeOf", "(II)I"⟩, 31) := ⟨⟨by decide +kernel, by decide +kernel⟩, List.mem_of_getElem? (i := 746) (by decide +kernel), List.mem_of_getElem? (i := 958) (by decide +kernel), List.mem_of_getElem? (i := 959) (by decide +kernel)⟩
theorem lw_p74 : lw_okq (⟨"LoftGravesModel", "isAhead", "(III)Z"⟩, 31) := ⟨⟨by decide +kernel, by decide +kernel⟩, List.mem_of_getElem? (i := 746) (by decide +kernel), List.mem_of_getElem? (i := 962) (by decide +kernel), List.mem_of_getElem? (i := 963) (by decide +kernel)⟩
theorem lw_p75 : lw_okq (⟨"LoftGravesModel", "isAheadByCustom", "(III)Z"⟩, 31) := ⟨⟨by decide +kernel, by decide +kernel⟩, List.mem_of_getElem? (i := 746) (by decide +kernel), List.mem_of_getElem? (i := 966) (by decide +kernel), List.mem_of_getElem? (i := 967) (by decide +kernel)⟩
theorem lw_p76 : lw_okq (⟨"LoftGravesModel", "valueBy", "(III)I"⟩, 31) := ⟨⟨by decide +kernel, by decide +kernel⟩, List.mem_of_getElem? (i := 746) (by decide +kernel), List.mem_of_getElem? (i := 970) (by decide +kernel), List.mem_of_getElem? (i := 971) (by decide +kernel)⟩
theorem lw_p77 : lw_okq (⟨"LoftGravesModel", "pass", "(I)V"⟩, 31) := ⟨⟨by decide +kernel, by decide +kernel⟩, List.mem_of_getElem? (i := 746) (by decide +kernel), List.mem_of_getElem? (i := 995) (by decide +kernel), List.mem_of_getElem? (i := 996) (by decide +kernel)⟩
theorem lw_p78 : lw_okq (⟨"LoftGravesModel", "rate", "(II)I"⟩, 31) := ⟨⟨by decide +kernel, by decide +kernel⟩, List.mem_of_getElem? (i := 746) (by decide +kernel), List.mem_of_getElem? (i := 999) (by decide +kernel), List.mem_of_getElem? (i := 1000) (by decide +kernel)⟩
theorem lw_p79 : lw_okq (⟨"LoftGravesModel", "softYards", "()I"⟩, 31) := ⟨⟨by decide +kernel, by decide +kernel⟩, List.mem_of_getElem? (i := 746) (by decide +kernel), List.mem_of_getElem? (i := 1003) (by decide +kernel), List.mem_of_getElem? (i := 1004) (by decide +kernel)⟩
def lw_privs_5 : List (MethodName × Nat) := [(⟨"LoftGravesModel", "takeNumber", "(II)I"⟩, 31), (⟨"LoftGravesModel", "takeEnd", "()V"⟩, 31), (⟨"LoftGravesModel", "loft", "(I)I"⟩, 31), (⟨"LoftGravesModel", "isInLoft", "(II)Z"⟩, 31), (⟨"LoftGravesModel", "laid", "(I)I"⟩, 31), (⟨"LoftGravesModel", "isYard", "(I)Z"⟩, 31), (⟨"LoftGravesModel", "who", "(II)I"⟩, 31), (⟨"LoftGravesModel", "isDead", "(I)Z"⟩, 31), (⟨"LoftGravesModel", "inOrder", "(II)I"⟩, 31), (⟨"LoftGravesModel", "placeOf", "(II)I"⟩, 31), (⟨"LoftGravesModel", "isAhead", "(III)Z"⟩, 31), (⟨"LoftGravesModel", "isAheadByCustom", "(III)Z"⟩, 31), (⟨"LoftGravesModel", "valueBy", "(III)I"⟩, 31), (⟨"LoftGravesModel", "pass", "(I)V"⟩, 31), (⟨"LoftGravesModel", "rate", "(II)I"⟩, 31), (⟨"LoftGravesModel", "softYards", "()I"⟩, 31)]
theorem lw_r5 : ∀ q ∈ lw_privs_5, lw_okq q := List.forall_mem_cons.mpr ⟨lw_p64, List.forall_mem_cons.mpr ⟨lw_p65, List.forall_mem_cons.mpr ⟨lw_p66, List.forall_mem_cons.mpr ⟨lw_p67, List.forall_mem_cons.mpr ⟨lw_p68, List.forall_mem_cons.mpr ⟨lw_p69, List.forall_mem_cons.mpr ⟨lw_p70, List.forall_mem_cons.mpr ⟨lw_p71, List.forall_mem_cons.mpr ⟨lw_p72, List.forall_mem_cons.mpr ⟨lw_p73, List.forall_mem_cons.mpr ⟨lw_p74, List.forall_mem_cons.mpr ⟨lw_p75, List.forall_mem_cons.mpr ⟨lw_p76, List.forall_mem_cons.mpr ⟨lw_p77, List.forall_mem_cons.mpr ⟨lw_p78, List.forall_mem_cons.mpr ⟨lw_p79, fun _ h => absurd h List.not_mem_nil⟩⟩⟩⟩⟩⟩⟩⟩⟩⟩⟩⟩⟩⟩⟩⟩
theorem lw_p80 : lw_okq (⟨"LoftGravesModel", "gnaw", "(I)V"⟩, 31) := ⟨⟨by decide +kernel, by decide +kernel⟩, List.mem_of_getElem? (i := 746) (by decide +kernel), List.mem_of_getElem? (i := 1012) (by decide +kernel), List.mem_of_getElem? (i := 1013) (by decide +kernel)⟩
theorem lw_p81 : lw_okq (⟨"LoftGravesModel", "draw", "(I)I"⟩, 31) := ⟨⟨by decide +kernel, by decide +kernel⟩, List.mem_of_getElem? (i := 746) (by decide +kernel), List.mem_of_getElem? (i := 1016) (by decide +kernel), List.mem_of_getElem? (i := 1017) (by decide +kernel)⟩
theorem lw_p82 : lw_okq (⟨"LoftGravesModel", "layIn", "(III)I"⟩, 31) := ⟨⟨by decide +kernel, by decide +kernel⟩, List.mem_of_getElem? (i := 746) (by decide +kernel), List.mem_of_getElem? (i := 1028) (by decide +kernel), List.mem_of_getElem? (i := 1029) (by decide +kernel)⟩
theorem lw_p83 : lw_okq (⟨"LoftGravesModel", "leastSoft", "()I"⟩, 31) := ⟨⟨by decide +kernel, by decide +kernel⟩, List.mem_of_getElem? (i := 746) (by decide +kernel), List.mem_of_getElem? (i := 1036) (by decide +kernel), List.mem_of_getElem? (i := 1037) (by decide +kernel)⟩
theorem lw_p84 : lw_okq (⟨"LoftGravesModel", "offends", "(III)Z"⟩, 31) := ⟨⟨by decide +kernel, by decide +kernel⟩, List.mem_of_getElem? (i := 746) (by decide +kernel), List.mem_of_getElem? (i := 1047) (by decide +kernel), List.mem_of_getElem? (i := 1048) (by decide +kernel)⟩
theorem lw_p85 : lw_okq (⟨"LoftGravesModel", "quarrelsIn", "(I)I"⟩, 31) := ⟨⟨by decide +kernel, by decide +kernel⟩, List.mem_of_getElem? (i := 746) (by decide +kernel), List.mem_of_getElem? (i := 1055) (by decide +kernel), List.mem_of_getElem? (i := 1056) (by decide +kernel)⟩
theorem lw_p86 : lw_okq (⟨"LoftGravesModel", "findLaying", "()Z"⟩, 31) := ⟨⟨by decide +kernel, by decide +kernel⟩, List.mem_of_getElem? (i := 746) (by decide +kernel), List.mem_of_getElem? (i := 1066) (by decide +kernel), List.mem_of_getElem? (i := 1067) (by decide +kernel)⟩
theorem lw_p87 : lw_okq (⟨"LoftGravesModel", "copy", "(II)V"⟩, 31) := ⟨⟨by decide +kernel, by decide +kernel⟩, List.mem_of_getElem? (i := 746) (by decide +kernel), List.mem_of_getElem? (i := 1070) (by decide +kernel), List.mem_of_getElem? (i := 1071) (by decide +kernel)⟩
theorem lw_p88 : lw_okq (⟨"LoftGravesModel", "isFree", "(I)Z"⟩, 31) := ⟨⟨by decide +kernel, by decide +kernel⟩, List.mem_of_getElem? (i := 746) (by decide +kernel), List.mem_of_getElem? (i := 1074) (by decide +kernel), List.mem_of_getElem? (i := 1075) (by decide +kernel)⟩
theorem lw_p89 : lw_okq (⟨"LoftGravesModel", "fill", "(II)Z"⟩, 31) := ⟨⟨by decide +kernel, by decide +kernel⟩, List.mem_of_getElem? (i := 746) (by decide +kernel), List.mem_of_getElem? (i := 1078) (by decide +kernel), List.mem_of_getElem? (i := 1079) (by decide +kernel)⟩
theorem lw_p90 : lw_okq (⟨"LoftGravesModel", "isUnlike", "(I)Z"⟩, 31) := ⟨⟨by decide +kernel, by decide +kernel⟩, List.mem_of_getElem? (i := 746) (by decide +kernel), List.mem_of_getElem? (i := 1082) (by decide +kernel), List.mem_of_getElem? (i := 1083) (by decide +kernel)⟩
theorem lw_p91 : lw_okq (⟨"LoftGravesModel", "goOn", "(I)Z"⟩, 31) := ⟨⟨by decide +kernel, by decide +kernel⟩, List.mem_of_getElem? (i := 746) (by decide +kernel), List.mem_of_getElem? (i := 1086) (by decide +kernel), List.mem_of_getElem? (i := 1087) (by decide +kernel)⟩
theorem lw_p92 : lw_okq (⟨"LoftGravesModel", "whenSoft", "(II)I"⟩, 31) := ⟨⟨by decide +kernel, by decide +kernel⟩, List.mem_of_getElem? (i := 746) (by decide +kernel), List.mem_of_getElem? (i := 1094) (by decide +kernel), List.mem_of_getElem? (i := 1095) (by decide +kernel)⟩
theorem lw_p93 : lw_okq (⟨"LoftGravesModel", "daysTill", "(II)I"⟩, 31) := ⟨⟨by decide +kernel, by decide +kernel⟩, List.mem_of_getElem? (i := 746) (by decide +kernel), List.mem_of_getElem? (i := 1098) (by decide +kernel), List.mem_of_getElem? (i := 1099) (by decide +kernel)⟩
theorem lw_p94 : lw_okq (⟨"LoftGravesModel", "findNames", "()V"⟩, 31) := ⟨⟨by decide +kernel, by decide +kernel⟩, List.mem_of_getElem? (i := 746) (by decide +kernel), List.mem_of_getElem? (i := 1123) (by decide +kernel), List.mem_of_getElem? (i := 1124) (by decide +kernel)⟩
theorem lw_p95 : lw_okq (⟨"LoftGravesModel", "ahead", "(I)I"⟩, 31) := ⟨⟨by decide +kernel, by decide +kernel⟩, List.mem_of_getElem? (i := 746) (by decide +kernel), List.mem_of_getElem? (i := 1127) (by decide +kernel), List.mem_of_getElem? (i := 1128) (by decide +kernel)⟩
def lw_privs_6 : List (MethodName × Nat) := [(⟨"LoftGravesModel", "gnaw", "(I)V"⟩, 31), (⟨"LoftGravesModel", "draw", "(I)I"⟩, 31), (⟨"LoftGravesModel", "layIn", "(III)I"⟩, 31), (⟨"LoftGravesModel", "leastSoft", "()I"⟩, 31), (⟨"LoftGravesModel", "offends", "(III)Z"⟩, 31), (⟨"LoftGravesModel", "quarrelsIn", "(I)I"⟩, 31), (⟨"LoftGravesModel", "findLaying", "()Z"⟩, 31), (⟨"LoftGravesModel", "copy", "(II)V"⟩, 31), (⟨"LoftGravesModel", "isFree", "(I)Z"⟩, 31), (⟨"LoftGravesModel", "fill", "(II)Z"⟩, 31), (⟨"LoftGravesModel", "isUnlike", "(I)Z"⟩, 31), (⟨"LoftGravesModel", "goOn", "(I)Z"⟩, 31), (⟨"LoftGravesModel", "whenSoft", "(II)I"⟩, 31), (⟨"LoftGravesModel", "daysTill", "(II)I"⟩, 31), (⟨"LoftGravesModel", "findNames", "()V"⟩, 31), (⟨"LoftGravesModel", "ahead", "(I)I"⟩, 31)]
theorem lw_r6 : ∀ q ∈ lw_privs_6, lw_okq q := List.forall_mem_cons.mpr ⟨lw_p80, List.forall_mem_cons.mpr ⟨lw_p81, List.forall_mem_cons.mpr ⟨lw_p82, List.forall_mem_cons.mpr ⟨lw_p83, List.forall_mem_cons.mpr ⟨lw_p84, List.forall_mem_cons.mpr ⟨lw_p85, List.forall_mem_cons.mpr ⟨lw_p86, List.forall_mem_cons.mpr ⟨lw_p87, List.forall_mem_cons.mpr ⟨lw_p88, List.forall_mem_cons.mpr ⟨lw_p89, List.forall_mem_cons.mpr ⟨lw_p90, List.forall_mem_cons.mpr ⟨lw_p91, List.forall_mem_cons.mpr ⟨lw_p92, List.forall_mem_cons.mpr ⟨lw_p93, List.forall_mem_cons.mpr ⟨lw_p94, List.forall_mem_cons.mpr ⟨lw_p95, fun _ h => absurd h List.not_mem_nil⟩⟩⟩⟩⟩⟩⟩⟩⟩⟩⟩⟩⟩⟩⟩⟩
def lw_privs : List (MethodName × Nat) := lw_privs_1 ++ (lw_privs_2 ++ (lw_privs_3 ++ (lw_privs_4 ++ (lw_privs_5 ++ (lw_privs_6)))))
def lw_tbl : List Cond := k2_sels lw_privs ++ tables_1
theorem lw_privs_ok : ∀ q ∈ lw_privs, lw_okq q := by
  show ∀ q ∈ lw_privs_1 ++ (lw_privs_2 ++ (lw_privs_3 ++ (lw_privs_4 ++ (lw_privs_5 ++ (lw_privs_6))))), lw_okq q
  exact List.forall_mem_append.mpr ⟨lw_r1, List.forall_mem_append.mpr ⟨lw_r2, List.forall_mem_append.mpr ⟨lw_r3, List.forall_mem_append.mpr ⟨lw_r4, List.forall_mem_append.mpr ⟨lw_r5, lw_r6⟩⟩⟩⟩⟩

/-! ===== BEGIN words of one list among another's, by their places ===== -/
theorem goodIn_r {big : List Cond} (ws : List Cond) (ps : List Nat) (hp : ws = ps.filterMap (fun i => big[i]?)) (h : ws.all goodWord = true) : GoodIn big ws := by
  intro w hw
  have h1 := List.all_eq_true.mp h w hw
  rw [hp] at hw
  obtain ⟨i, -, hi⟩ := List.mem_filterMap.mp hw
  have hm : w ∈ big := by first | exact List.mem_of_getElem? hi | exact List.getElem?_mem hi
  exact ⟨hm, good_of_word h1⟩
theorem goodIn_app {big a b : List Cond} (ha : GoodIn big a) (hb : GoodIn big b) : GoodIn big (a ++ b) := fun w h => (List.mem_append.mp h).elim (ha w) (hb w)
theorem goodIn_ca {big a b : List Cond} {c : Cond} (ha : GoodIn big (c :: a)) (hb : GoodIn big b) : GoodIn big (c :: (a ++ b)) := fun w h => (List.mem_cons.mp h).elim (fun e => ha w (List.mem_cons.mpr (Or.inl e))) (fun h => (List.mem_append.mp h).elim (fun h => ha w (List.mem_cons.mpr (Or.inr h))) (hb w))
theorem goodIn_sub {big ws : List Cond} (hm : ∀ w ∈ ws, w ∈ big) (h : ws.all goodWord = true) : GoodIn big ws := fun w hw => ⟨hm w hw, good_of_word (List.all_eq_true.mp h w hw)⟩
/-! ===== END ===== -/

/-! ===== BEGIN printed: names, fields, word lists, decode rows ===== -/
def RX0 : String := "LoftGraves$Book"
def TX0 : u_T := fun k => match k with
  | 0 => ("LoftGraves$Book", "who", "[I", true)
  | 1 => ("LoftGraves$Book", "where", "[I", true)
  | _ => ("LoftGraves$Book", "count", "I", false)
def tyX0 : Nat → FieldType := fun k => match k with
  | 0 => .array .int
  | 1 => .array .int
  | _ => .int
abbrev wsX00 : List Cond := u_ws RX0 TX0 3
theorem nmX0 : ∀ a, a < 3 → ∀ b, b < 3 → a ≠ b → (TX0 a).2.1 ≠ (TX0 b).2.1 := by decide +kernel
theorem tyX0_ok : ∀ k, k < 3 → parseFieldDescriptor (TX0 k).2.2.1 = some (tyX0 k) := by decide +kernel
abbrev cX0_init : ByteArray := prog_2_method_1_code
def yX0_init : MethodName := ⟨RX0, "<init>", "()V"⟩
abbrev cX0_add : ByteArray := prog_2_method_2_code
def yX0_add : MethodName := ⟨RX0, "add", "(II)V"⟩
def RX1 : String := "LoftGraves$Custom"
def TX1 : u_T := fun k => match k with
  | 0 => ("LoftGraves$Custom", "clauses", "[I", true)
  | _ => ("LoftGraves$Custom", "count", "I", false)
def tyX1 : Nat → FieldType := fun k => match k with
  | 0 => .array .int
  | _ => .int
abbrev wsX10 : List Cond := u_ws RX1 TX1 2
theorem nmX1 : ∀ a, a < 2 → ∀ b, b < 2 → a ≠ b → (TX1 a).2.1 ≠ (TX1 b).2.1 := by decide +kernel
theorem tyX1_ok : ∀ k, k < 2 → parseFieldDescriptor (TX1 k).2.2.1 = some (tyX1 k) := by decide +kernel
abbrev cX1_init : ByteArray := prog_3_method_1_code
def yX1_init : MethodName := ⟨RX1, "<init>", "()V"⟩
abbrev cX1_add : ByteArray := prog_3_method_2_code
def yX1_add : MethodName := ⟨RX1, "add", "(I)V"⟩
abbrev cX1_counts : ByteArray := prog_3_method_3_code
def yX1_counts : MethodName := ⟨RX1, "counts", "(I)Z"⟩
abbrev cX1_copyFrom : ByteArray := prog_3_method_4_code
def yX1_copyFrom : MethodName := ⟨RX1, "copyFrom", "(LLoftGraves$Custom;)V"⟩
abbrev cX1_readFrom : ByteArray := prog_3_method_5_code
def yX1_readFrom : MethodName := ⟨RX1, "readFrom", "(LLoftGraves$Text;)V"⟩
abbrev cX1_readClause : ByteArray := prog_3_method_6_code
def yX1_readClause : MethodName := ⟨RX1, "readClause", "(LLoftGraves$Text;)V"⟩
def RX2 : String := "LoftGraves$Naming"
def TX2 : u_T := fun k => match k with
  | _ => ("LoftGraves$Naming", "tally", "[I", true)
def tyX2 : Nat → FieldType := fun k => match k with
  | _ => .array .int
abbrev wsX20 : List Cond := u_ws RX2 TX2 1
theorem nmX2 : ∀ a, a < 1 → ∀ b, b < 1 → a ≠ b → (TX2 a).2.1 ≠ (TX2 b).2.1 := by decide +kernel
theorem tyX2_ok : ∀ k, k < 1 → parseFieldDescriptor (TX2 k).2.2.1 = some (tyX2 k) := by decide +kernel
abbrev cX2_init : ByteArray := prog_4_method_1_code
def yX2_init : MethodName := ⟨RX2, "<init>", "()V"⟩
abbrev cX2_countWays : ByteArray := prog_4_method_2_code
def yX2_countWays : MethodName := ⟨RX2, "countWays", "(LLoftGraves$Parish;)I"⟩
abbrev cX2_weigh : ByteArray := prog_4_method_3_code
def yX2_weigh : MethodName := ⟨RX2, "weigh", "(LLoftGraves$Parish;)V"⟩
abbrev cX2_changesWith : ByteArray := prog_4_method_4_code
def yX2_changesWith : MethodName := ⟨RX2, "changesWith", "(LLoftGraves$Parish;II)I"⟩
abbrev cX2_fewestChanges : ByteArray := prog_4_method_5_code
def yX2_fewestChanges : MethodName := ⟨RX2, "fewestChanges", "()I"⟩
abbrev cX2_nameOf : ByteArray := prog_4_method_6_code
def yX2_nameOf : MethodName := ⟨RX2, "nameOf", "(LLoftGraves$Parish;I)I"⟩
def RX3 : String := "LoftGraves$Parish"
def TX3 : u_T := fun k => match k with
  | 0 => ("LoftGraves$Parish", "yards", "I", false)
  | 1 => ("LoftGraves$Parish", "dead", "I", false)
  | 2 => ("LoftGraves$Parish", "sun", "I", false)
  | 3 => ("LoftGraves$Parish", "shade", "I", false)
  | 4 => ("LoftGraves$Parish", "frost", "[I", true)
  | 5 => ("LoftGraves$Parish", "rank", "[I", true)
  | 6 => ("LoftGraves$Parish", "waited", "[I", true)
  | 7 => ("LoftGraves$Parish", "kin", "[I", true)
  | 8 => ("LoftGraves$Parish", "gifts", "[I", true)
  | 9 => ("LoftGraves$Parish", "boards", "[I", true)
  | 10 => ("LoftGraves$Parish", "yardOf", "[I", true)
  | 11 => ("LoftGraves$Parish", "labels", "[I", true)
  | 12 => ("LoftGraves$Parish", "marks", "[I", true)
  | 13 => ("LoftGraves$Parish", "knocked", "I", false)
  | 14 => ("LoftGraves$Parish", "hours", "I", false)
  | _ => ("LoftGraves$Parish", "chance", "I", false)
def tyX3 : Nat → FieldType := fun k => match k with
  | 0 => .int
  | 1 => .int
  | 2 => .int
  | 3 => .int
  | 4 => .array .int
  | 5 => .array .int
  | 6 => .array .int
  | 7 => .array .int
  | 8 => .array .int
  | 9 => .array .int
  | 10 => .array .int
  | 11 => .array .int
  | 12 => .array .int
  | 13 => .int
  | 14 => .int
  | _ => .int
abbrev wsX30 : List Cond := u_ws RX3 TX3 16
theorem nmX3 : ∀ a, a < 16 → ∀ b, b < 16 → a ≠ b → (TX3 a).2.1 ≠ (TX3 b).2.1 := by decide +kernel
theorem tyX3_ok : ∀ k, k < 16 → parseFieldDescriptor (TX3 k).2.2.1 = some (tyX3 k) := by decide +kernel
abbrev cX3_init : ByteArray := prog_5_method_1_code
def yX3_init : MethodName := ⟨RX3, "<init>", "()V"⟩
abbrev cX3_copyFrom : ByteArray := prog_5_method_2_code
def yX3_copyFrom : MethodName := ⟨RX3, "copyFrom", "(LLoftGraves$Parish;)V"⟩
abbrev cX3_readFrom : ByteArray := prog_5_method_3_code
def yX3_readFrom : MethodName := ⟨RX3, "readFrom", "(LLoftGraves$Text;)V"⟩
abbrev cX3_readClause : ByteArray := prog_5_method_4_code
def yX3_readClause : MethodName := ⟨RX3, "readClause", "(LLoftGraves$Text;)V"⟩
abbrev cX3_readSun : ByteArray := prog_5_method_5_code
def yX3_readSun : MethodName := ⟨RX3, "readSun", "(LLoftGraves$Text;I)V"⟩
abbrev cX3_readYard : ByteArray := prog_5_method_6_code
def yX3_readYard : MethodName := ⟨RX3, "readYard", "(LLoftGraves$Text;I)V"⟩
abbrev cX3_readDead : ByteArray := prog_5_method_7_code
def yX3_readDead : MethodName := ⟨RX3, "readDead", "(LLoftGraves$Text;I)V"⟩
abbrev cX3_settle : ByteArray := prog_5_method_8_code
def yX3_settle : MethodName := ⟨RX3, "settle", "()V"⟩
abbrev cX3_hasYard : ByteArray := prog_5_method_9_code
def yX3_hasYard : MethodName := ⟨RX3, "hasYard", "(I)Z"⟩
abbrev cX3_hasDead : ByteArray := prog_5_method_10_code
def yX3_hasDead : MethodName := ⟨RX3, "hasDead", "(I)Z"⟩
abbrev cX3_laid : ByteArray := prog_5_method_11_code
def yX3_laid : MethodName := ⟨RX3, "laid", "()I"⟩
abbrev cX3_waiting : ByteArray := prog_5_method_12_code
def yX3_waiting : MethodName := ⟨RX3, "waiting", "()I"⟩
abbrev cX3_whoLiesIn : ByteArray := prog_5_method_13_code
def yX3_whoLiesIn : MethodName := ⟨RX3, "whoLiesIn", "(I)I"⟩
abbrev cX3_taken : ByteArray := prog_5_method_14_code
def yX3_taken : MethodName := ⟨RX3, "taken", "()I"⟩
abbrev cX3_soft : ByteArray := prog_5_method_15_code
def yX3_soft : MethodName := ⟨RX3, "soft", "()I"⟩
abbrev cX3_softAndFree : ByteArray := prog_5_method_16_code
def yX3_softAndFree : MethodName := ⟨RX3, "softAndFree", "()I"⟩
abbrev cX3_boardless : ByteArray := prog_5_method_17_code
def yX3_boardless : MethodName := ⟨RX3, "boardless", "()I"⟩
abbrev cX3_ranksOf : ByteArray := prog_5_method_18_code
def yX3_ranksOf : MethodName := ⟨RX3, "ranksOf", "(I)I"⟩
abbrev cX3_worth : ByteArray := prog_5_method_19_code
def yX3_worth : MethodName := ⟨RX3, "worth", "(II)I"⟩
abbrev cX3_claim : ByteArray := prog_5_method_20_code
def yX3_claim : MethodName := ⟨RX3, "claim", "(LLoftGraves$Custom;I)J"⟩
abbrev cX3_urgentClaim : ByteArray := prog_5_method_21_code
def yX3_urgentClaim : MethodName := ⟨RX3, "urgentClaim", "(LLoftGraves$Custom;I)J"⟩
abbrev cX3_placeAmong : ByteArray := prog_5_method_22_code
def yX3_placeAmong : MethodName := ⟨RX3, "placeAmong", "(LLoftGraves$Custom;II)I"⟩
abbrev cX3_firstAmong : ByteArray := prog_5_method_23_code
def yX3_firstAmong : MethodName := ⟨RX3, "firstAmong", "(LLoftGraves$Custom;I)I"⟩
abbrev cX3_thawOf : ByteArray := prog_5_method_24_code
def yX3_thawOf : MethodName := ⟨RX3, "thawOf", "(II)I"⟩
abbrev cX3_passDay : ByteArray := prog_5_method_25_code
def yX3_passDay : MethodName := ⟨RX3, "passDay", "(I)V"⟩
abbrev cX3_draw : ByteArray := prog_5_method_26_code
def yX3_draw : MethodName := ⟨RX3, "draw", "(I)I"⟩
abbrev cX3_passNight : ByteArray := prog_5_method_27_code
def yX3_passNight : MethodName := ⟨RX3, "passNight", "(I)V"⟩
abbrev cX3_layDown : ByteArray := prog_5_method_28_code
def yX3_layDown : MethodName := ⟨RX3, "layDown", "(II)I"⟩
abbrev cX3_softBehind : ByteArray := prog_5_method_29_code
def yX3_softBehind : MethodName := ⟨RX3, "softBehind", "(II)I"⟩
abbrev cX3_daysUntilSoft : ByteArray := prog_5_method_30_code
def yX3_daysUntilSoft : MethodName := ⟨RX3, "daysUntilSoft", "(II)I"⟩
def RX4 : String := "LoftGraves$Plan"
def TX4 : u_T := fun k => match k with
  | 0 => ("LoftGraves$Plan", "behind", "[I", true)
  | 1 => ("LoftGraves$Plan", "alike", "[I", true)
  | 2 => ("LoftGraves$Plan", "tried", "[I", true)
  | 3 => ("LoftGraves$Plan", "best", "[I", true)
  | 4 => ("LoftGraves$Plan", "fewest", "I", false)
  | _ => ("LoftGraves$Plan", "found", "Z", false)
def tyX4 : Nat → FieldType := fun k => match k with
  | 0 => .array .int
  | 1 => .array .int
  | 2 => .array .int
  | 3 => .array .int
  | 4 => .int
  | _ => .boolean
abbrev wsX40 : List Cond := u_ws RX4 TX4 6
theorem nmX4 : ∀ a, a < 6 → ∀ b, b < 6 → a ≠ b → (TX4 a).2.1 ≠ (TX4 b).2.1 := by decide +kernel
theorem tyX4_ok : ∀ k, k < 6 → parseFieldDescriptor (TX4 k).2.2.1 = some (tyX4 k) := by decide +kernel
abbrev cX4_init : ByteArray := prog_6_method_1_code
def yX4_init : MethodName := ⟨RX4, "<init>", "()V"⟩
abbrev cX4_begin : ByteArray := prog_6_method_2_code
def yX4_begin : MethodName := ⟨RX4, "begin", "(LLoftGraves$Parish;LLoftGraves$Custom;)V"⟩
abbrev cX4_offends : ByteArray := prog_6_method_3_code
def yX4_offends : MethodName := ⟨RX4, "offends", "(II)Z"⟩
abbrev cX4_whoOffends : ByteArray := prog_6_method_4_code
def yX4_whoOffends : MethodName := ⟨RX4, "whoOffends", "(I)I"⟩
abbrev cX4_quarrelsOf : ByteArray := prog_6_method_5_code
def yX4_quarrelsOf : MethodName := ⟨RX4, "quarrelsOf", "(II)I"⟩
abbrev cX4_quarrelsAmong : ByteArray := prog_6_method_6_code
def yX4_quarrelsAmong : MethodName := ⟨RX4, "quarrelsAmong", "(II)I"⟩
abbrev cX4_quarrelsNow : ByteArray := prog_6_method_7_code
def yX4_quarrelsNow : MethodName := ⟨RX4, "quarrelsNow", "()I"⟩
abbrev cX4_find : ByteArray := prog_6_method_8_code
def yX4_find : MethodName := ⟨RX4, "find", "(II)V"⟩
abbrev cX4_search : ByteArray := prog_6_method_9_code
def yX4_search : MethodName := ⟨RX4, "search", "(LLoftGraves$Plan;IIII)V"⟩
def RX5 : String := "LoftGraves$Text"
def TX5 : u_T := fun k => match k with
  | 0 => ("LoftGraves$Text", "bytes", "[B", true)
  | 1 => ("LoftGraves$Text", "length", "I", false)
  | 2 => ("LoftGraves$Text", "place", "I", false)
  | 3 => ("LoftGraves$Text", "flaw", "I", false)
  | _ => ("LoftGraves$Text", "flawPlace", "I", false)
def tyX5 : Nat → FieldType := fun k => match k with
  | 0 => .array .byte
  | 1 => .int
  | 2 => .int
  | 3 => .int
  | _ => .int
abbrev wsX50 : List Cond := u_ws RX5 TX5 5
theorem nmX5 : ∀ a, a < 5 → ∀ b, b < 5 → a ≠ b → (TX5 a).2.1 ≠ (TX5 b).2.1 := by decide +kernel
theorem tyX5_ok : ∀ k, k < 5 → parseFieldDescriptor (TX5 k).2.2.1 = some (tyX5 k) := by decide +kernel
abbrev cX5_init : ByteArray := prog_7_method_1_code
def yX5_init : MethodName := ⟨RX5, "<init>", "()V"⟩
abbrev cX5_append : ByteArray := prog_7_method_2_code
def yX5_append : MethodName := ⟨RX5, "append", "(I)V"⟩
abbrev cX5_begin : ByteArray := prog_7_method_3_code
def yX5_begin : MethodName := ⟨RX5, "begin", "()V"⟩
abbrev cX5_blame : ByteArray := prog_7_method_4_code
def yX5_blame : MethodName := ⟨RX5, "blame", "(II)V"⟩
abbrev cX5_byteAt : ByteArray := prog_7_method_5_code
def yX5_byteAt : MethodName := ⟨RX5, "byteAt", "(I)I"⟩
abbrev cX5_skipBlanks : ByteArray := prog_7_method_6_code
def yX5_skipBlanks : MethodName := ⟨RX5, "skipBlanks", "()V"⟩
abbrev cX5_goesOn : ByteArray := prog_7_method_7_code
def yX5_goesOn : MethodName := ⟨RX5, "goesOn", "()Z"⟩
abbrev cX5_takeWord : ByteArray := prog_7_method_8_code
def yX5_takeWord : MethodName := ⟨RX5, "takeWord", "(Ljava/lang/String;)Z"⟩
abbrev cX5_takeNumber : ByteArray := prog_7_method_9_code
def yX5_takeNumber : MethodName := ⟨RX5, "takeNumber", "(II)I"⟩
abbrev cX5_takeStop : ByteArray := prog_7_method_10_code
def yX5_takeStop : MethodName := ⟨RX5, "takeStop", "()V"⟩
def RX6 : String := "LoftGraves"
def TX6 : u_T := fun k => match k with
  | 0 => ("LoftGraves", "text", "LLoftGraves$Text;", true)
  | 1 => ("LoftGraves", "rules", "LLoftGraves$Custom;", true)
  | 2 => ("LoftGraves", "rulesDraft", "LLoftGraves$Custom;", true)
  | 3 => ("LoftGraves", "now", "LLoftGraves$Parish;", true)
  | 4 => ("LoftGraves", "draft", "LLoftGraves$Parish;", true)
  | 5 => ("LoftGraves", "firstImage", "LLoftGraves$Parish;", true)
  | 6 => ("LoftGraves", "secondImage", "LLoftGraves$Parish;", true)
  | 7 => ("LoftGraves", "firstKept", "Z", false)
  | 8 => ("LoftGraves", "secondKept", "Z", false)
  | 9 => ("LoftGraves", "book", "LLoftGraves$Book;", true)
  | 10 => ("LoftGraves", "plan", "LLoftGraves$Plan;", true)
  | _ => ("LoftGraves", "naming", "LLoftGraves$Naming;", true)
def tyX6 : Nat → FieldType := fun k => match k with
  | 0 => .object "LoftGraves$Text"
  | 1 => .object "LoftGraves$Custom"
  | 2 => .object "LoftGraves$Custom"
  | 3 => .object "LoftGraves$Parish"
  | 4 => .object "LoftGraves$Parish"
  | 5 => .object "LoftGraves$Parish"
  | 6 => .object "LoftGraves$Parish"
  | 7 => .boolean
  | 8 => .boolean
  | 9 => .object "LoftGraves$Book"
  | 10 => .object "LoftGraves$Plan"
  | _ => .object "LoftGraves$Naming"
abbrev wsX60 : List Cond := u_ws RX6 TX6 12
theorem nmX6 : ∀ a, a < 12 → ∀ b, b < 12 → a ≠ b → (TX6 a).2.1 ≠ (TX6 b).2.1 := by decide +kernel
theorem tyX6_ok : ∀ k, k < 12 → parseFieldDescriptor (TX6 k).2.2.1 = some (tyX6 k) := by decide +kernel
abbrev cX6_init : ByteArray := prog_1_method_1_code
def yX6_init : MethodName := ⟨RX6, "<init>", "()V"⟩
abbrev cX6_feed : ByteArray := prog_1_method_2_code
def yX6_feed : MethodName := ⟨RX6, "feed", "(IJ)I"⟩
abbrev cX6_parish : ByteArray := prog_1_method_3_code
def yX6_parish : MethodName := ⟨RX6, "parish", "()I"⟩
abbrev cX6_custom : ByteArray := prog_1_method_4_code
def yX6_custom : MethodName := ⟨RX6, "custom", "()I"⟩
abbrev cX6_fault : ByteArray := prog_1_method_5_code
def yX6_fault : MethodName := ⟨RX6, "fault", "()I"⟩
abbrev cX6_told : ByteArray := prog_1_method_6_code
def yX6_told : MethodName := ⟨RX6, "told", "(I)I"⟩
abbrev cX6_yard : ByteArray := prog_1_method_7_code
def yX6_yard : MethodName := ⟨RX6, "yard", "(II)I"⟩
abbrev cX6_dead : ByteArray := prog_1_method_8_code
def yX6_dead : MethodName := ⟨RX6, "dead", "(II)I"⟩
abbrev cX6_order : ByteArray := prog_1_method_9_code
def yX6_order : MethodName := ⟨RX6, "order", "(I)I"⟩
abbrev cX6_letter : ByteArray := prog_1_method_10_code
def yX6_letter : MethodName := ⟨RX6, "letter", "(II)I"⟩
abbrev cX6_gift : ByteArray := prog_1_method_11_code
def yX6_gift : MethodName := ⟨RX6, "gift", "(II)I"⟩
abbrev cX6_knock : ByteArray := prog_1_method_12_code
def yX6_knock : MethodName := ⟨RX6, "knock", "(I)I"⟩
abbrev cX6_day : ByteArray := prog_1_method_13_code
def yX6_day : MethodName := ⟨RX6, "day", "(I)I"⟩
abbrev cX6_rats : ByteArray := prog_1_method_14_code
def yX6_rats : MethodName := ⟨RX6, "rats", "(II)I"⟩
abbrev cX6_lay : ByteArray := prog_1_method_15_code
def yX6_lay : MethodName := ⟨RX6, "lay", "(II)I"⟩
abbrev cX6_spring : ByteArray := prog_1_method_16_code
def yX6_spring : MethodName := ⟨RX6, "spring", "(II)I"⟩
abbrev cX6_useSpades : ByteArray := prog_1_method_17_code
def yX6_useSpades : MethodName := ⟨RX6, "useSpades", "(I)V"⟩
abbrev cX6_offended : ByteArray := prog_1_method_18_code
def yX6_offended : MethodName := ⟨RX6, "offended", "(I)I"⟩
abbrev cX6_quarrels : ByteArray := prog_1_method_19_code
def yX6_quarrels : MethodName := ⟨RX6, "quarrels", "()I"⟩
abbrev cX6_laying : ByteArray := prog_1_method_20_code
def yX6_laying : MethodName := ⟨RX6, "laying", "(I)I"⟩
abbrev cX6_when : ByteArray := prog_1_method_21_code
def yX6_when : MethodName := ⟨RX6, "when", "(II)I"⟩
abbrev cX6_span : ByteArray := prog_1_method_22_code
def yX6_span : MethodName := ⟨RX6, "span", "(IIII)I"⟩
abbrev cX6_bribe : ByteArray := prog_1_method_23_code
def yX6_bribe : MethodName := ⟨RX6, "bribe", "(II)I"⟩
abbrev cX6_leastBribe : ByteArray := prog_1_method_24_code
def yX6_leastBribe : MethodName := ⟨RX6, "leastBribe", "(II)I"⟩
abbrev cX6_label : ByteArray := prog_1_method_25_code
def yX6_label : MethodName := ⟨RX6, "label", "(II)I"⟩
abbrev cX6_mark : ByteArray := prog_1_method_26_code
def yX6_mark : MethodName := ⟨RX6, "mark", "(II)I"⟩
abbrev cX6_fits : ByteArray := prog_1_method_27_code
def yX6_fits : MethodName := ⟨RX6, "fits", "()I"⟩
abbrev cX6_mixed : ByteArray := prog_1_method_28_code
def yX6_mixed : MethodName := ⟨RX6, "mixed", "(I)I"⟩
abbrev cX6_churches : ByteArray := prog_1_method_29_code
def yX6_churches : MethodName := ⟨RX6, "churches", "(I)I"⟩
abbrev cX6_write : ByteArray := prog_1_method_30_code
def yX6_write : MethodName := ⟨RX6, "write", "(II)I"⟩
abbrev cX6_tear : ByteArray := prog_1_method_31_code
def yX6_tear : MethodName := ⟨RX6, "tear", "()I"⟩
abbrev cX6_judge : ByteArray := prog_1_method_32_code
def yX6_judge : MethodName := ⟨RX6, "judge", "()I"⟩
abbrev cX6_seed : ByteArray := prog_1_method_33_code
def yX6_seed : MethodName := ⟨RX6, "seed", "(I)I"⟩
abbrev cX6_keep : ByteArray := prog_1_method_34_code
def yX6_keep : MethodName := ⟨RX6, "keep", "(I)I"⟩
abbrev cX6_goBack : ByteArray := prog_1_method_35_code
def yX6_goBack : MethodName := ⟨RX6, "goBack", "(I)I"⟩
abbrev cX6_at : ByteArray := prog_1_method_36_code
def yX6_at : MethodName := ⟨RX6, "at", "([II)I"⟩
abbrev cX6_put : ByteArray := prog_1_method_37_code
def yX6_put : MethodName := ⟨RX6, "put", "([III)V"⟩
abbrev cX6_copyRow : ByteArray := prog_1_method_38_code
def yX6_copyRow : MethodName := ⟨RX6, "copyRow", "([I[I)V"⟩
abbrev cX6_bit : ByteArray := prog_1_method_39_code
def yX6_bit : MethodName := ⟨RX6, "bit", "(I)I"⟩
abbrev cX6_has : ByteArray := prog_1_method_40_code
def yX6_has : MethodName := ⟨RX6, "has", "(II)Z"⟩
abbrev cX6_allBelow : ByteArray := prog_1_method_41_code
def yX6_allBelow : MethodName := ⟨RX6, "allBelow", "(I)I"⟩
def RX7 : String := "LoftGravesModel"
def TX7 : u_T := fun k => match k with
  | 0 => ("LoftGravesModel", "w", "[I", true)
  | 1 => ("LoftGravesModel", "isKept", "[Z", true)
  | 2 => ("LoftGravesModel", "thaws", "I", false)
  | 3 => ("LoftGravesModel", "shade", "I", false)
  | 4 => ("LoftGravesModel", "frosts", "[I", true)
  | 5 => ("LoftGravesModel", "ranks", "[I", true)
  | 6 => ("LoftGravesModel", "waits", "[I", true)
  | 7 => ("LoftGravesModel", "kins", "[I", true)
  | 8 => ("LoftGravesModel", "many", "[I", true)
  | 9 => ("LoftGravesModel", "clauses", "[I", true)
  | 10 => ("LoftGravesModel", "clauseMany", "I", false)
  | 11 => ("LoftGravesModel", "text", "[I", true)
  | 12 => ("LoftGravesModel", "textSize", "I", false)
  | 13 => ("LoftGravesModel", "at", "I", false)
  | 14 => ("LoftGravesModel", "first", "I", false)
  | 15 => ("LoftGravesModel", "length", "I", false)
  | 16 => ("LoftGravesModel", "faultOf", "I", false)
  | 17 => ("LoftGravesModel", "fault", "I", false)
  | 18 => ("LoftGravesModel", "isSun", "Z", false)
  | 19 => ("LoftGravesModel", "newThaws", "I", false)
  | 20 => ("LoftGravesModel", "newShade", "I", false)
  | 21 => ("LoftGravesModel", "newClauses", "[I", true)
  | 22 => ("LoftGravesModel", "those", "[I", true)
  | 23 => ("LoftGravesModel", "chosen", "[I", true)
  | 24 => ("LoftGravesModel", "bestChosen", "[I", true)
  | 25 => ("LoftGravesModel", "bestMany", "I", false)
  | 26 => ("LoftGravesModel", "ways", "[I", true)
  | 27 => ("LoftGravesModel", "others", "[I", true)
  | 28 => ("LoftGravesModel", "bookDead", "[I", true)
  | 29 => ("LoftGravesModel", "bookYard", "[I", true)
  | _ => ("LoftGravesModel", "written", "I", false)
def tyX7 : Nat → FieldType := fun k => match k with
  | 0 => .array .int
  | 1 => .array .boolean
  | 2 => .int
  | 3 => .int
  | 4 => .array .int
  | 5 => .array .int
  | 6 => .array .int
  | 7 => .array .int
  | 8 => .array .int
  | 9 => .array .int
  | 10 => .int
  | 11 => .array .int
  | 12 => .int
  | 13 => .int
  | 14 => .int
  | 15 => .int
  | 16 => .int
  | 17 => .int
  | 18 => .boolean
  | 19 => .int
  | 20 => .int
  | 21 => .array .int
  | 22 => .array .int
  | 23 => .array .int
  | 24 => .array .int
  | 25 => .int
  | 26 => .array .int
  | 27 => .array .int
  | 28 => .array .int
  | 29 => .array .int
  | _ => .int
abbrev wsX70 : List Cond := u_ws RX7 TX7 31
theorem nmX7 : ∀ a, a < 31 → ∀ b, b < 31 → a ≠ b → (TX7 a).2.1 ≠ (TX7 b).2.1 := by decide +kernel
theorem tyX7_ok : ∀ k, k < 31 → parseFieldDescriptor (TX7 k).2.2.1 = some (tyX7 k) := by decide +kernel
abbrev cX7_init : ByteArray := prog_9_method_1_code
def yX7_init : MethodName := ⟨RX7, "<init>", "()V"⟩
abbrev cX7_in : ByteArray := prog_9_method_3_code
def yX7_in : MethodName := ⟨RX7, "in", "(JJJ)Z"⟩
abbrev cX7_one : ByteArray := prog_9_method_4_code
def yX7_one : MethodName := ⟨RX7, "one", "(Z)I"⟩
abbrev cX7_has : ByteArray := prog_9_method_5_code
def yX7_has : MethodName := ⟨RX7, "has", "(II)Z"⟩
abbrev cX7_ones : ByteArray := prog_9_method_6_code
def yX7_ones : MethodName := ⟨RX7, "ones", "(I)I"⟩
abbrev cX7_size : ByteArray := prog_9_method_7_code
def yX7_size : MethodName := ⟨RX7, "size", "(I)I"⟩
abbrev cX7_feed : ByteArray := prog_9_method_8_code
def yX7_feed : MethodName := ⟨RX7, "feed", "(IJ)I"⟩
abbrev cX7_here : ByteArray := prog_9_method_9_code
def yX7_here : MethodName := ⟨RX7, "here", "()I"⟩
abbrev cX7_want : ByteArray := prog_9_method_10_code
def yX7_want : MethodName := ⟨RX7, "want", "(ZII)Z"⟩
abbrev cX7_takeWord : ByteArray := prog_9_method_11_code
def yX7_takeWord : MethodName := ⟨RX7, "takeWord", "()V"⟩
abbrev cX7_isWord : ByteArray := prog_9_method_12_code
def yX7_isWord : MethodName := ⟨RX7, "isWord", "(IIIIII)Z"⟩
abbrev cX7_takeNumber : ByteArray := prog_9_method_13_code
def yX7_takeNumber : MethodName := ⟨RX7, "takeNumber", "(II)I"⟩
abbrev cX7_takeEnd : ByteArray := prog_9_method_14_code
def yX7_takeEnd : MethodName := ⟨RX7, "takeEnd", "()V"⟩
abbrev cX7_takeClause : ByteArray := prog_9_method_15_code
def yX7_takeClause : MethodName := ⟨RX7, "takeClause", "()V"⟩
abbrev cX7_start : ByteArray := prog_9_method_16_code
def yX7_start : MethodName := ⟨RX7, "start", "()V"⟩
abbrev cX7_parish : ByteArray := prog_9_method_17_code
def yX7_parish : MethodName := ⟨RX7, "parish", "()I"⟩
abbrev cX7_custom : ByteArray := prog_9_method_18_code
def yX7_custom : MethodName := ⟨RX7, "custom", "()I"⟩
abbrev cX7_fault : ByteArray := prog_9_method_19_code
def yX7_fault : MethodName := ⟨RX7, "fault", "()I"⟩
abbrev cX7_isYard : ByteArray := prog_9_method_20_code
def yX7_isYard : MethodName := ⟨RX7, "isYard", "(I)Z"⟩
abbrev cX7_isDead : ByteArray := prog_9_method_21_code
def yX7_isDead : MethodName := ⟨RX7, "isDead", "(I)Z"⟩
abbrev cX7_isInLoft : ByteArray := prog_9_method_22_code
def yX7_isInLoft : MethodName := ⟨RX7, "isInLoft", "(II)Z"⟩
abbrev cX7_loft : ByteArray := prog_9_method_23_code
def yX7_loft : MethodName := ⟨RX7, "loft", "(I)I"⟩
abbrev cX7_laid : ByteArray := prog_9_method_24_code
def yX7_laid : MethodName := ⟨RX7, "laid", "(I)I"⟩
abbrev cX7_who : ByteArray := prog_9_method_25_code
def yX7_who : MethodName := ⟨RX7, "who", "(II)I"⟩
abbrev cX7_valueBy : ByteArray := prog_9_method_26_code
def yX7_valueBy : MethodName := ⟨RX7, "valueBy", "(III)I"⟩
abbrev cX7_isAheadByCustom : ByteArray := prog_9_method_27_code
def yX7_isAheadByCustom : MethodName := ⟨RX7, "isAheadByCustom", "(III)Z"⟩
abbrev cX7_isAhead : ByteArray := prog_9_method_28_code
def yX7_isAhead : MethodName := ⟨RX7, "isAhead", "(III)Z"⟩
abbrev cX7_placeOf : ByteArray := prog_9_method_29_code
def yX7_placeOf : MethodName := ⟨RX7, "placeOf", "(II)I"⟩
abbrev cX7_inOrder : ByteArray := prog_9_method_30_code
def yX7_inOrder : MethodName := ⟨RX7, "inOrder", "(II)I"⟩
abbrev cX7_told : ByteArray := prog_9_method_31_code
def yX7_told : MethodName := ⟨RX7, "told", "(I)I"⟩
abbrev cX7_yard : ByteArray := prog_9_method_32_code
def yX7_yard : MethodName := ⟨RX7, "yard", "(II)I"⟩
abbrev cX7_dead : ByteArray := prog_9_method_33_code
def yX7_dead : MethodName := ⟨RX7, "dead", "(II)I"⟩
abbrev cX7_order : ByteArray := prog_9_method_34_code
def yX7_order : MethodName := ⟨RX7, "order", "(I)I"⟩
abbrev cX7_letter : ByteArray := prog_9_method_35_code
def yX7_letter : MethodName := ⟨RX7, "letter", "(II)I"⟩
abbrev cX7_gift : ByteArray := prog_9_method_36_code
def yX7_gift : MethodName := ⟨RX7, "gift", "(II)I"⟩
abbrev cX7_knock : ByteArray := prog_9_method_37_code
def yX7_knock : MethodName := ⟨RX7, "knock", "(I)I"⟩
abbrev cX7_rate : ByteArray := prog_9_method_38_code
def yX7_rate : MethodName := ⟨RX7, "rate", "(II)I"⟩
abbrev cX7_pass : ByteArray := prog_9_method_39_code
def yX7_pass : MethodName := ⟨RX7, "pass", "(I)V"⟩
abbrev cX7_softYards : ByteArray := prog_9_method_40_code
def yX7_softYards : MethodName := ⟨RX7, "softYards", "()I"⟩
abbrev cX7_day : ByteArray := prog_9_method_41_code
def yX7_day : MethodName := ⟨RX7, "day", "(I)I"⟩
abbrev cX7_draw : ByteArray := prog_9_method_42_code
def yX7_draw : MethodName := ⟨RX7, "draw", "(I)I"⟩
abbrev cX7_gnaw : ByteArray := prog_9_method_43_code
def yX7_gnaw : MethodName := ⟨RX7, "gnaw", "(I)V"⟩
abbrev cX7_rats : ByteArray := prog_9_method_44_code
def yX7_rats : MethodName := ⟨RX7, "rats", "(II)I"⟩
abbrev cX7_layIn : ByteArray := prog_9_method_45_code
def yX7_layIn : MethodName := ⟨RX7, "layIn", "(III)I"⟩
abbrev cX7_lay : ByteArray := prog_9_method_46_code
def yX7_lay : MethodName := ⟨RX7, "lay", "(II)I"⟩
abbrev cX7_leastSoft : ByteArray := prog_9_method_47_code
def yX7_leastSoft : MethodName := ⟨RX7, "leastSoft", "()I"⟩
abbrev cX7_spring : ByteArray := prog_9_method_48_code
def yX7_spring : MethodName := ⟨RX7, "spring", "(II)I"⟩
abbrev cX7_offends : ByteArray := prog_9_method_49_code
def yX7_offends : MethodName := ⟨RX7, "offends", "(III)Z"⟩
abbrev cX7_offended : ByteArray := prog_9_method_50_code
def yX7_offended : MethodName := ⟨RX7, "offended", "(I)I"⟩
abbrev cX7_quarrelsIn : ByteArray := prog_9_method_51_code
def yX7_quarrelsIn : MethodName := ⟨RX7, "quarrelsIn", "(I)I"⟩
abbrev cX7_quarrels : ByteArray := prog_9_method_52_code
def yX7_quarrels : MethodName := ⟨RX7, "quarrels", "()I"⟩
abbrev cX7_copy : ByteArray := prog_9_method_53_code
def yX7_copy : MethodName := ⟨RX7, "copy", "(II)V"⟩
abbrev cX7_isFree : ByteArray := prog_9_method_54_code
def yX7_isFree : MethodName := ⟨RX7, "isFree", "(I)Z"⟩
abbrev cX7_goOn : ByteArray := prog_9_method_55_code
def yX7_goOn : MethodName := ⟨RX7, "goOn", "(I)Z"⟩
abbrev cX7_isUnlike : ByteArray := prog_9_method_56_code
def yX7_isUnlike : MethodName := ⟨RX7, "isUnlike", "(I)Z"⟩
abbrev cX7_fill : ByteArray := prog_9_method_57_code
def yX7_fill : MethodName := ⟨RX7, "fill", "(II)Z"⟩
abbrev cX7_findLaying : ByteArray := prog_9_method_58_code
def yX7_findLaying : MethodName := ⟨RX7, "findLaying", "()Z"⟩
abbrev cX7_laying : ByteArray := prog_9_method_59_code
def yX7_laying : MethodName := ⟨RX7, "laying", "(I)I"⟩
abbrev cX7_daysTill : ByteArray := prog_9_method_60_code
def yX7_daysTill : MethodName := ⟨RX7, "daysTill", "(II)I"⟩
abbrev cX7_whenSoft : ByteArray := prog_9_method_61_code
def yX7_whenSoft : MethodName := ⟨RX7, "whenSoft", "(II)I"⟩
abbrev cX7_when : ByteArray := prog_9_method_62_code
def yX7_when : MethodName := ⟨RX7, "when", "(II)I"⟩
abbrev cX7_span : ByteArray := prog_9_method_63_code
def yX7_span : MethodName := ⟨RX7, "span", "(IIII)I"⟩
abbrev cX7_bribe : ByteArray := prog_9_method_64_code
def yX7_bribe : MethodName := ⟨RX7, "bribe", "(II)I"⟩
abbrev cX7_label : ByteArray := prog_9_method_65_code
def yX7_label : MethodName := ⟨RX7, "label", "(II)I"⟩
abbrev cX7_mark : ByteArray := prog_9_method_66_code
def yX7_mark : MethodName := ⟨RX7, "mark", "(II)I"⟩
abbrev cX7_ahead : ByteArray := prog_9_method_67_code
def yX7_ahead : MethodName := ⟨RX7, "ahead", "(I)I"⟩
abbrev cX7_findNames : ByteArray := prog_9_method_68_code
def yX7_findNames : MethodName := ⟨RX7, "findNames", "()V"⟩
abbrev cX7_fits : ByteArray := prog_9_method_69_code
def yX7_fits : MethodName := ⟨RX7, "fits", "()I"⟩
abbrev cX7_mixed : ByteArray := prog_9_method_70_code
def yX7_mixed : MethodName := ⟨RX7, "mixed", "(I)I"⟩
abbrev cX7_churches : ByteArray := prog_9_method_71_code
def yX7_churches : MethodName := ⟨RX7, "churches", "(I)I"⟩
abbrev cX7_write : ByteArray := prog_9_method_72_code
def yX7_write : MethodName := ⟨RX7, "write", "(II)I"⟩
abbrev cX7_tear : ByteArray := prog_9_method_73_code
def yX7_tear : MethodName := ⟨RX7, "tear", "()I"⟩
abbrev cX7_judge : ByteArray := prog_9_method_74_code
def yX7_judge : MethodName := ⟨RX7, "judge", "()I"⟩
abbrev cX7_seed : ByteArray := prog_9_method_75_code
def yX7_seed : MethodName := ⟨RX7, "seed", "(I)I"⟩
abbrev cX7_keep : ByteArray := prog_9_method_76_code
def yX7_keep : MethodName := ⟨RX7, "keep", "(I)I"⟩
abbrev cX7_goBack : ByteArray := prog_9_method_77_code
def yX7_goBack : MethodName := ⟨RX7, "goBack", "(I)I"⟩
def RJ6 : String := "java/lang/Integer"
def TJ6 : u_T := fun k => match k with
  | _ => ("", "", "", false)
def tyJ6 : Nat → FieldType := fun k => match k with
  | _ => .int
abbrev wsJ60 : List Cond := u_ws RJ6 TJ6 0
theorem nmJ6 : ∀ a, a < 0 → ∀ b, b < 0 → a ≠ b → (TJ6 a).2.1 ≠ (TJ6 b).2.1 := by decide +kernel
theorem tyJ6_ok : ∀ k, k < 0 → parseFieldDescriptor (TJ6 k).2.2.1 = some (tyJ6 k) := by decide +kernel
abbrev cJ6_numberOfTrailingZeros_0f7a4 : ByteArray := prog_10_method_48_code
def yJ6_numberOfTrailingZeros_0f7a4 : MethodName := ⟨RJ6, "numberOfTrailingZeros", "(I)I"⟩
abbrev cJ6_bitCount_0f7a4 : ByteArray := prog_10_method_49_code
def yJ6_bitCount_0f7a4 : MethodName := ⟨RJ6, "bitCount", "(I)I"⟩
def RJ9 : String := "java/lang/Math"
def TJ9 : u_T := fun k => match k with
  | _ => ("", "", "", false)
def tyJ9 : Nat → FieldType := fun k => match k with
  | _ => .int
abbrev wsJ90 : List Cond := u_ws RJ9 TJ9 0
theorem nmJ9 : ∀ a, a < 0 → ∀ b, b < 0 → a ≠ b → (TJ9 a).2.1 ≠ (TJ9 b).2.1 := by decide +kernel
theorem tyJ9_ok : ∀ k, k < 0 → parseFieldDescriptor (TJ9 k).2.2.1 = some (tyJ9 k) := by decide +kernel
abbrev cJ9_abs_0f7a4 : ByteArray := prog_11_method_59_code
def yJ9_abs_0f7a4 : MethodName := ⟨RJ9, "abs", "(I)I"⟩
abbrev cJ9_max_7cf53 : ByteArray := prog_11_method_65_code
def yJ9_max_7cf53 : MethodName := ⟨RJ9, "max", "(II)I"⟩
abbrev cJ9_min_7cf53 : ByteArray := prog_11_method_69_code
def yJ9_min_7cf53 : MethodName := ⟨RJ9, "min", "(II)I"⟩
def RJ0 : String := "java/lang/String"
def TJ0 : u_T := fun k => match k with
  | _ => ("", "", "", false)
def tyJ0 : Nat → FieldType := fun k => match k with
  | _ => .int
abbrev wsJ00 : List Cond := u_ws RJ0 TJ0 0
theorem nmJ0 : ∀ a, a < 0 → ∀ b, b < 0 → a ≠ b → (TJ0 a).2.1 ≠ (TJ0 b).2.1 := by decide +kernel
theorem tyJ0_ok : ∀ k, k < 0 → parseFieldDescriptor (TJ0 k).2.2.1 = some (tyJ0 k) := by decide +kernel
abbrev cJ0_length_8abf5 : ByteArray := prog_12_method_54_code
def yJ0_length_8abf5 : MethodName := ⟨RJ0, "length", "()I"⟩
abbrev cJ0_charAt_5068e : ByteArray := prog_12_method_56_code
def yJ0_charAt_5068e : MethodName := ⟨RJ0, "charAt", "(I)C"⟩
abbrev cJ0_coder_7d493 : ByteArray := prog_12_method_152_code
def yJ0_coder_7d493 : MethodName := ⟨RJ0, "coder", "()B"⟩
abbrev cJ0_isLatin1_aae02 : ByteArray := prog_12_method_154_code
def yJ0_isLatin1_aae02 : MethodName := ⟨RJ0, "isLatin1", "()Z"⟩
abbrev cJ0_checkIndex_df160 : ByteArray := prog_12_method_155_code
def yJ0_checkIndex_df160 : MethodName := ⟨RJ0, "checkIndex", "(II)V"⟩
def RJ1 : String := "java/lang/StringLatin1"
def TJ1 : u_T := fun k => match k with
  | _ => ("", "", "", false)
def tyJ1 : Nat → FieldType := fun k => match k with
  | _ => .int
abbrev wsJ10 : List Cond := u_ws RJ1 TJ1 0
theorem nmJ1 : ∀ a, a < 0 → ∀ b, b < 0 → a ≠ b → (TJ1 a).2.1 ≠ (TJ1 b).2.1 := by decide +kernel
theorem tyJ1_ok : ∀ k, k < 0 → parseFieldDescriptor (TJ1 k).2.2.1 = some (tyJ1 k) := by decide +kernel
abbrev cJ1_charAt_3b067 : ByteArray := prog_13_method_2_code
def yJ1_charAt_3b067 : MethodName := ⟨RJ1, "charAt", "([BI)C"⟩
def RJ2 : String := "java/lang/StringUTF16"
def TJ2 : u_T := fun k => match k with
  | _ => ("", "", "", false)
def tyJ2 : Nat → FieldType := fun k => match k with
  | _ => .int
abbrev wsJ20 : List Cond := u_ws RJ2 TJ2 0
theorem nmJ2 : ∀ a, a < 0 → ∀ b, b < 0 → a ≠ b → (TJ2 a).2.1 ≠ (TJ2 b).2.1 := by decide +kernel
theorem tyJ2_ok : ∀ k, k < 0 → parseFieldDescriptor (TJ2 k).2.2.1 = some (tyJ2 k) := by decide +kernel
abbrev cJ2_getChar_3b067 : ByteArray := prog_14_method_5_code
def yJ2_getChar_3b067 : MethodName := ⟨RJ2, "getChar", "([BI)C"⟩
abbrev cJ2_length_9d52b : ByteArray := prog_14_method_6_code
def yJ2_length_9d52b : MethodName := ⟨RJ2, "length", "([B)I"⟩
abbrev cJ2_charAt_3b067 : ByteArray := prog_14_method_83_code
def yJ2_charAt_3b067 : MethodName := ⟨RJ2, "charAt", "([BI)C"⟩
abbrev cJ2_checkIndex_2214a : ByteArray := prog_14_method_91_code
def yJ2_checkIndex_2214a : MethodName := ⟨RJ2, "checkIndex", "(I[B)V"⟩
def RJ3 : String := "jdk/internal/util/Preconditions"
def TJ3 : u_T := fun k => match k with
  | _ => ("", "", "", false)
def tyJ3 : Nat → FieldType := fun k => match k with
  | _ => .int
abbrev wsJ30 : List Cond := u_ws RJ3 TJ3 0
theorem nmJ3 : ∀ a, a < 0 → ∀ b, b < 0 → a ≠ b → (TJ3 a).2.1 ≠ (TJ3 b).2.1 := by decide +kernel
theorem tyJ3_ok : ∀ k, k < 0 → parseFieldDescriptor (TJ3 k).2.2.1 = some (tyJ3 k) := by decide +kernel
abbrev cJ3_checkIndex_8e157 : ByteArray := prog_15_method_11_code
def yJ3_checkIndex_8e157 : MethodName := ⟨RJ3, "checkIndex", "(IILjava/util/function/BiFunction;)I"⟩
def RL : String := "LoftGravesLaw"
abbrev cL_law : ByteArray := code
def yL_law : MethodName := ⟨RL, "law", "([I)Z"⟩
abbrev vwCl : List vw_C := [(RX0, TX0, 3), (RX1, TX1, 2), (RX2, TX2, 1), (RX3, TX3, 16), (RX4, TX4, 6), (RX5, TX5, 5), (RX6, TX6, 12), (RX7, TX7, 31)]
/-! links between nest mates, out of the tables -/
theorem zmem_of {big ws : List Cond} (ps : List Nat) (h : ws = ps.filterMap (fun i => big[i]?)) : ∀ w ∈ ws, w ∈ big := by
  intro w hw
  rw [h] at hw
  obtain ⟨i, -, hi⟩ := List.mem_filterMap.mp hw
  exact List.mem_of_getElem? hi
def zNW_1 : List Cond := [Cond.methodLinkNest RX6 9 yX5_init "LoftGraves", Cond.fieldLinkNest RX6 78 "LoftGraves$Text" "length" "I" "LoftGraves", Cond.fieldLinkNest RX3 78 "LoftGraves$Text" "place" "I" "LoftGraves", Cond.fieldLinkNest RX1 44 "LoftGraves$Text" "place" "I" "LoftGraves", Cond.fieldLinkNest RX6 90 "LoftGraves$Text" "flaw" "I" "LoftGraves", Cond.fieldLinkNest RX6 111 "LoftGraves$Text" "flawPlace" "I" "LoftGraves", Cond.methodLinkNest RX6 18 yX1_init "LoftGraves", Cond.fieldLinkNest RX3 149 "LoftGraves$Custom" "clauses" "[I" "LoftGraves", Cond.fieldLinkNest RX6 110 "LoftGraves$Custom" "count" "I" "LoftGraves", Cond.fieldLinkNest RX3 142 "LoftGraves$Custom" "count" "I" "LoftGraves", Cond.methodLinkNest RX6 28 yX3_init "LoftGraves", Cond.fieldLinkNest RX6 114 "LoftGraves$Parish" "yards" "I" "LoftGraves", Cond.fieldLinkNest RX2 15 "LoftGraves$Parish" "dead" "I" "LoftGraves", Cond.fieldLinkNest RX6 103 "LoftGraves$Parish" "dead" "I" "LoftGraves", Cond.fieldLinkNest RX6 117 "LoftGraves$Parish" "sun" "I" "LoftGraves", Cond.fieldLinkNest RX6 120 "LoftGraves$Parish" "shade" "I" "LoftGraves", Cond.fieldLinkNest RX6 138 "LoftGraves$Parish" "frost" "[I" "LoftGraves", Cond.fieldLinkNest RX6 153 "LoftGraves$Parish" "rank" "[I" "LoftGraves", Cond.fieldLinkNest RX6 156 "LoftGraves$Parish" "waited" "[I" "LoftGraves", Cond.fieldLinkNest RX4 57 "LoftGraves$Parish" "kin" "[I" "LoftGraves", Cond.fieldLinkNest RX6 159 "LoftGraves$Parish" "kin" "[I" "LoftGraves", Cond.fieldLinkNest RX6 162 "LoftGraves$Parish" "gifts" "[I" "LoftGraves", Cond.fieldLinkNest RX6 165 "LoftGraves$Parish" "boards" "[I" "LoftGraves", Cond.fieldLinkNest RX4 42 "LoftGraves$Parish" "yardOf" "[I" "LoftGraves", Cond.fieldLinkNest RX6 168 "LoftGraves$Parish" "yardOf" "[I" "LoftGraves", Cond.fieldLinkNest RX2 58 "LoftGraves$Parish" "labels" "[I" "LoftGraves", Cond.fieldLinkNest RX6 178 "LoftGraves$Parish" "labels" "[I" "LoftGraves", Cond.fieldLinkNest RX2 29 "LoftGraves$Parish" "marks" "[I" "LoftGraves", Cond.fieldLinkNest RX6 181 "LoftGraves$Parish" "marks" "[I" "LoftGraves", Cond.fieldLinkNest RX6 171 "LoftGraves$Parish" "knocked" "I" "LoftGraves", Cond.fieldLinkNest RX6 130 "LoftGraves$Parish" "hours" "I" "LoftGraves", Cond.fieldLinkNest RX6 93 "LoftGraves$Parish" "chance" "I" "LoftGraves", Cond.methodLinkNest RX6 51 yX0_init "LoftGraves", Cond.fieldLinkNest RX6 295 "LoftGraves$Book" "who" "[I" "LoftGraves", Cond.fieldLinkNest RX6 298 "LoftGraves$Book" "where" "[I" "LoftGraves", Cond.fieldLinkNest RX6 100 "LoftGraves$Book" "count" "I" "LoftGraves", Cond.methodLinkNest RX6 58 yX4_init "LoftGraves", Cond.fieldLinkNest RX6 261 "LoftGraves$Plan" "best" "[I" "LoftGraves", Cond.fieldLinkNest RX6 258 "LoftGraves$Plan" "fewest" "I" "LoftGraves", Cond.fieldLinkNest RX6 255 "LoftGraves$Plan" "found" "Z" "LoftGraves", Cond.methodLinkNest RX6 65 yX2_init "LoftGraves", Cond.methodLinkNest RX6 70 yX1_add "LoftGraves", Cond.methodLinkNest RX1 19 yX6_put "LoftGraves", Cond.methodLinkNest RX6 74 yX3_settle "LoftGraves", Cond.methodLinkNest RX3 110 yX6_put "LoftGraves", Cond.methodLinkNest RX3 114 yX6_allBelow "LoftGraves"]
theorem zNW_in_1 : ∀ w ∈ zNW_1, w ∈ tables_1_1 := zmem_of [25, 31, 33, 34, 36, 38, 53, 58, 60, 61, 70, 75, 77, 78, 80, 82, 84, 86, 88, 90, 91, 93, 95, 97, 98, 100, 101, 103, 104, 106, 108, 110, 146, 151, 153, 155, 165, 173, 175, 177, 193, 201, 205, 208, 212, 213] (by decide +kernel)
def zNW_2 : List Cond := [Cond.methodLinkNest RX6 83 yX5_append "LoftGraves", Cond.methodLinkNest RX6 86 yX3_readFrom "LoftGraves", Cond.methodLinkNest RX3 65 yX5_begin "LoftGraves", Cond.methodLinkNest RX3 70 yX5_goesOn "LoftGraves", Cond.methodLinkNest RX3 82 yX5_takeWord "LoftGraves", Cond.methodLinkNest RX3 99 yX5_blame "LoftGraves", Cond.methodLinkNest RX3 103 yX5_takeNumber "LoftGraves", Cond.methodLinkNest RX3 107 yX5_takeStop "LoftGraves", Cond.methodLinkNest RX6 96 yX3_copyFrom "LoftGraves", Cond.methodLinkNest RX3 61 yX6_copyRow "LoftGraves", Cond.methodLinkNest RX6 106 yX1_readFrom "LoftGraves", Cond.methodLinkNest RX1 31 yX5_begin "LoftGraves", Cond.methodLinkNest RX1 36 yX5_goesOn "LoftGraves", Cond.methodLinkNest RX1 49 yX5_takeWord "LoftGraves", Cond.methodLinkNest RX1 59 yX5_blame "LoftGraves", Cond.methodLinkNest RX1 23 yX6_at "LoftGraves", Cond.methodLinkNest RX1 71 yX5_takeStop "LoftGraves", Cond.methodLinkNest RX6 107 yX1_copyFrom "LoftGraves", Cond.methodLinkNest RX1 27 yX6_copyRow "LoftGraves", Cond.methodLinkNest RX6 123 yX3_waiting "LoftGraves", Cond.methodLinkNest RX3 118 yX6_at "LoftGraves", Cond.methodLinkNest RX3 122 yX6_bit "LoftGraves", Cond.methodLinkNest RX6 127 yX3_laid "LoftGraves", Cond.methodLinkNest RX6 133 yX3_hasYard "LoftGraves", Cond.methodLinkNest RX6 146 yX3_whoLiesIn "LoftGraves", Cond.methodLinkNest RX6 150 yX3_hasDead "LoftGraves", Cond.methodLinkNest RX6 184 yX3_placeAmong "LoftGraves"]
theorem zNW_in_2 : ∀ w ∈ zNW_2, w ∈ tables_1_2 := zmem_of [22, 30, 34, 38, 55, 111, 115, 120, 134, 138, 149, 153, 154, 160, 164, 169, 171, 172, 176, 185, 193, 194, 195, 200, 205, 213, 224] (by decide +kernel)
def zNW_3 : List Cond := [Cond.methodLinkNest RX3 138 yX6_has "LoftGraves", Cond.methodLinkNest RX6 202 yX3_passDay "LoftGraves", Cond.methodLinkNest RX6 205 yX3_soft "LoftGraves", Cond.methodLinkNest RX6 208 yX3_passNight "LoftGraves", Cond.methodLinkNest RX6 211 yX3_boardless "LoftGraves", Cond.methodLinkNest RX6 214 yX3_taken "LoftGraves", Cond.methodLinkNest RX6 217 yX3_layDown "LoftGraves", Cond.methodLinkNest RX6 220 yX3_draw "LoftGraves", Cond.methodLinkNest RX6 231 yX3_firstAmong "LoftGraves", Cond.methodLinkNest RX6 235 yX3_softAndFree "LoftGraves", Cond.methodLinkNest RX6 241 yX4_begin "LoftGraves", Cond.methodLinkNest RX4 32 yX6_put "LoftGraves", Cond.methodLinkNest RX4 36 yX3_hasDead "LoftGraves", Cond.methodLinkNest RX4 45 yX6_at "LoftGraves", Cond.methodLinkNest RX4 49 yX3_claim "LoftGraves", Cond.methodLinkNest RX4 53 yX6_bit "LoftGraves", Cond.methodLinkNest RX6 245 yX4_whoOffends "LoftGraves", Cond.methodLinkNest RX4 60 yX6_has "LoftGraves", Cond.methodLinkNest RX6 248 yX4_quarrelsNow "LoftGraves", Cond.methodLinkNest RX6 251 yX4_find "LoftGraves", Cond.methodLinkNest RX4 92 yX6_copyRow "LoftGraves", Cond.methodLinkNest RX6 264 yX3_daysUntilSoft "LoftGraves", Cond.methodLinkNest RX6 273 yX2_countWays "LoftGraves", Cond.methodLinkNest RX2 21 yX6_allBelow "LoftGraves", Cond.methodLinkNest RX2 25 yX6_put "LoftGraves", Cond.methodLinkNest RX2 37 yX6_at "LoftGraves", Cond.methodLinkNest RX2 41 yX6_has "LoftGraves", Cond.methodLinkNest RX2 45 yX6_bit "LoftGraves", Cond.methodLinkNest RX6 277 yX2_weigh "LoftGraves", Cond.methodLinkNest RX6 280 yX2_fewestChanges "LoftGraves", Cond.methodLinkNest RX6 283 yX2_nameOf "LoftGraves", Cond.methodLinkNest RX6 287 yX3_ranksOf "LoftGraves"]
theorem zNW_in_3 : ∀ w ∈ zNW_3, w ∈ tables_1_3 := zmem_of [4, 25, 42, 50, 62, 70, 71, 79, 84, 89, 108, 112, 113, 114, 115, 116, 117, 125, 130, 149, 158, 163, 196, 200, 201, 203, 204, 205, 210, 219, 223, 231] (by decide +kernel)
def zNW_4 : List Cond := [Cond.methodLinkNest RX6 293 yX0_add "LoftGraves", Cond.methodLinkNest RX0 22 yX6_put "LoftGraves"]
theorem zNW_in_4 : ∀ w ∈ zNW_4, w ∈ tables_1_4 := zmem_of [0, 4] (by decide +kernel)
def zNW_5 : List Cond := []
theorem zNW_in_5 : ∀ w ∈ zNW_5, w ∈ tables_1_5 := zmem_of [] (by decide +kernel)
def zNW : List Cond := zNW_1 ++ (zNW_2 ++ (zNW_3 ++ (zNW_4 ++ (zNW_5))))
theorem zNW_in : ∀ w ∈ zNW, w ∈ lw_tbl := by
  intro w h
  refine List.mem_append_right _ ?_
  rcases List.mem_append.mp h with h | h
  · exact List.mem_append_left _ (zNW_in_1 w h)
  refine List.mem_append_right _ ?_
  rcases List.mem_append.mp h with h | h
  · exact List.mem_append_left _ (zNW_in_2 w h)
  refine List.mem_append_right _ ?_
  rcases List.mem_append.mp h with h | h
  · exact List.mem_append_left _ (zNW_in_3 w h)
  refine List.mem_append_right _ ?_
  rcases List.mem_append.mp h with h | h
  · exact List.mem_append_left _ (zNW_in_4 w h)
  exact List.mem_append_right _ (zNW_in_5 w h)
def zisNest : Cond → Bool
  | .fieldLinkNest _ _ _ _ _ _ => true
  | .methodLinkNest _ _ _ _ => true
  | _ => false
theorem zNW_nest : zNW.all zisNest = true := by decide +kernel
/-- the words that a contract may rest on -/
def zT : List Cond := lw_tbl.filter goodWord
theorem zT_sub : ∀ w ∈ zT, w ∈ lw_tbl := fun _ h => (List.mem_filter.mp h).1
theorem zgood {w : Cond} (h : w ∈ zT) : goodWord w = true := (List.mem_filter.mp h).2
theorem ztp {i : Nat} {w : Cond} (h : (k2_sels lw_privs)[i]? = some w) (hg : goodWord w = true) : w ∈ zT := List.mem_filter.mpr ⟨List.mem_append_left _ (List.mem_of_getElem? h), hg⟩
theorem zt1 {i : Nat} {w : Cond} (h : tables_1_1[i]? = some w) (hg : goodWord w = true) : w ∈ zT := List.mem_filter.mpr ⟨List.mem_append_right _ (List.mem_append_left _ (List.mem_of_getElem? h)), hg⟩
theorem zt2 {i : Nat} {w : Cond} (h : tables_1_2[i]? = some w) (hg : goodWord w = true) : w ∈ zT := List.mem_filter.mpr ⟨List.mem_append_right _ (List.mem_append_right _ (List.mem_append_left _ (List.mem_of_getElem? h))), hg⟩
theorem zt3 {i : Nat} {w : Cond} (h : tables_1_3[i]? = some w) (hg : goodWord w = true) : w ∈ zT := List.mem_filter.mpr ⟨List.mem_append_right _ (List.mem_append_right _ (List.mem_append_right _ (List.mem_append_left _ (List.mem_of_getElem? h)))), hg⟩
theorem zt4 {i : Nat} {w : Cond} (h : tables_1_4[i]? = some w) (hg : goodWord w = true) : w ∈ zT := List.mem_filter.mpr ⟨List.mem_append_right _ (List.mem_append_right _ (List.mem_append_right _ (List.mem_append_right _ (List.mem_append_left _ (List.mem_of_getElem? h))))), hg⟩
theorem zt5 {i : Nat} {w : Cond} (h : tables_1_5[i]? = some w) (hg : goodWord w = true) : w ∈ zT := List.mem_filter.mpr ⟨List.mem_append_right _ (List.mem_append_right _ (List.mem_append_right _ (List.mem_append_right _ (List.mem_append_right _ (List.mem_of_getElem? h))))), hg⟩
