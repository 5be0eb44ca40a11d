section
-- ===== PART A: goes FIRST, ahead of the names: the tables' words, and 'selects' of the private methods out of them =====
/-- a private method of a class that the tables say can be made, by its rows of tables_1 -/
def lw_okq (q : MethodName × Nat) : Prop := (q.1.cls ≠ "java/lang/invoke/MethodHandle" ∧ q.1.cls ≠ "java/lang/invoke/VarHandle") ∧ Cond.instantiable q.1.cls q.2 ∈ tables_1 ∧ Cond.privateMethod q.1 ∈ tables_1 ∧ Cond.instanceMethod q.1 ∈ tables_1
theorem lw_p0 : lw_okq (⟨"LoftGraves$Custom", "add", "(I)V"⟩, 2) := ⟨⟨by decide +kernel, by decide +kernel⟩, List.mem_of_getElem? (i := 52) (by decide +kernel), List.mem_of_getElem? (i := 202) (by decide +kernel), List.mem_of_getElem? (i := 203) (by decide +kernel)⟩
theorem lw_p1 : lw_okq (⟨"LoftGraves$Parish", "settle", "()V"⟩, 16) := ⟨⟨by decide +kernel, by decide +kernel⟩, List.mem_of_getElem? (i := 69) (by decide +kernel), List.mem_of_getElem? (i := 209) (by decide +kernel), List.mem_of_getElem? (i := 210) (by decide +kernel)⟩
theorem lw_p2 : lw_okq (⟨"LoftGraves$Text", "append", "(I)V"⟩, 5) := ⟨⟨by decide +kernel, by decide +kernel⟩, List.mem_of_getElem? (i := 24) (by decide +kernel), List.mem_of_getElem? (i := 263) (by decide +kernel), List.mem_of_getElem? (i := 264) (by decide +kernel)⟩
theorem lw_p3 : lw_okq (⟨"LoftGraves$Parish", "readFrom", "(LLoftGraves$Text;)V"⟩, 16) := ⟨⟨by decide +kernel, by decide +kernel⟩, List.mem_of_getElem? (i := 69) (by decide +kernel), List.mem_of_getElem? (i := 271) (by decide +kernel), List.mem_of_getElem? (i := 272) (by decide +kernel)⟩
theorem lw_p4 : lw_okq (⟨"LoftGraves$Text", "begin", "()V"⟩, 5) := ⟨⟨by decide +kernel, by decide +kernel⟩, List.mem_of_getElem? (i := 24) (by decide +kernel), List.mem_of_getElem? (i := 275) (by decide +kernel), List.mem_of_getElem? (i := 276) (by decide +kernel)⟩
theorem lw_p5 : lw_okq (⟨"LoftGraves$Text", "goesOn", "()Z"⟩, 5) := ⟨⟨by decide +kernel, by decide +kernel⟩, List.mem_of_getElem? (i := 24) (by decide +kernel), List.mem_of_getElem? (i := 279) (by decide +kernel), List.mem_of_getElem? (i := 280) (by decide +kernel)⟩
theorem lw_p6 : lw_okq (⟨"LoftGraves$Text", "skipBlanks", "()V"⟩, 5) := ⟨⟨by decide +kernel, by decide +kernel⟩, List.mem_of_getElem? (i := 24) (by decide +kernel), List.mem_of_getElem? (i := 283) (by decide +kernel), List.mem_of_getElem? (i := 284) (by decide +kernel)⟩
theorem lw_p7 : lw_okq (⟨"LoftGraves$Text", "byteAt", "(I)I"⟩, 5) := ⟨⟨by decide +kernel, by decide +kernel⟩, List.mem_of_getElem? (i := 24) (by decide +kernel), List.mem_of_getElem? (i := 287) (by decide +kernel), List.mem_of_getElem? (i := 288) (by decide +kernel)⟩
theorem lw_p8 : lw_okq (⟨"LoftGraves$Parish", "readClause", "(LLoftGraves$Text;)V"⟩, 16) := ⟨⟨by decide +kernel, by decide +kernel⟩, List.mem_of_getElem? (i := 69) (by decide +kernel), List.mem_of_getElem? (i := 291) (by decide +kernel), List.mem_of_getElem? (i := 292) (by decide +kernel)⟩
theorem lw_p9 : lw_okq (⟨"LoftGraves$Text", "takeWord", "(Ljava/lang/String;)Z"⟩, 5) := ⟨⟨by decide +kernel, by decide +kernel⟩, List.mem_of_getElem? (i := 24) (by decide +kernel), List.mem_of_getElem? (i := 296) (by decide +kernel), List.mem_of_getElem? (i := 297) (by decide +kernel)⟩
theorem lw_p10 : lw_okq (⟨"LoftGraves$Parish", "readSun", "(LLoftGraves$Text;I)V"⟩, 16) := ⟨⟨by decide +kernel, by decide +kernel⟩, List.mem_of_getElem? (i := 69) (by decide +kernel), List.mem_of_getElem? (i := 348) (by decide +kernel), List.mem_of_getElem? (i := 349) (by decide +kernel)⟩
theorem lw_p11 : lw_okq (⟨"LoftGraves$Text", "blame", "(II)V"⟩, 5) := ⟨⟨by decide +kernel, by decide +kernel⟩, List.mem_of_getElem? (i := 24) (by decide +kernel), List.mem_of_getElem? (i := 352) (by decide +kernel), List.mem_of_getElem? (i := 353) (by decide +kernel)⟩
theorem lw_p12 : lw_okq (⟨"LoftGraves$Text", "takeNumber", "(II)I"⟩, 5) := ⟨⟨by decide +kernel, by decide +kernel⟩, List.mem_of_getElem? (i := 24) (by decide +kernel), List.mem_of_getElem? (i := 356) (by decide +kernel), List.mem_of_getElem? (i := 357) (by decide +kernel)⟩
theorem lw_p13 : lw_okq (⟨"LoftGraves$Text", "takeStop", "()V"⟩, 5) := ⟨⟨by decide +kernel, by decide +kernel⟩, List.mem_of_getElem? (i := 24) (by decide +kernel), List.mem_of_getElem? (i := 361) (by decide +kernel), List.mem_of_getElem? (i := 362) (by decide +kernel)⟩
theorem lw_p14 : lw_okq (⟨"LoftGraves$Parish", "readYard", "(LLoftGraves$Text;I)V"⟩, 16) := ⟨⟨by decide +kernel, by decide +kernel⟩, List.mem_of_getElem? (i := 69) (by decide +kernel), List.mem_of_getElem? (i := 366) (by decide +kernel), List.mem_of_getElem? (i := 367) (by decide +kernel)⟩
theorem lw_p15 : lw_okq (⟨"LoftGraves$Parish", "readDead", "(LLoftGraves$Text;I)V"⟩, 16) := ⟨⟨by decide +kernel, by decide +kernel⟩, List.mem_of_getElem? (i := 69) (by decide +kernel), List.mem_of_getElem? (i := 371) (by decide +kernel), List.mem_of_getElem? (i := 372) (by decide +kernel)⟩
def lw_privs_1 : List (MethodName × Nat) := [(⟨"LoftGraves$Custom", "add", "(I)V"⟩, 2), (⟨"LoftGraves$Parish", "settle", "()V"⟩, 16), (⟨"LoftGraves$Text", "append", "(I)V"⟩, 5), (⟨"LoftGraves$Parish", "readFrom", "(LLoftGraves$Text;)V"⟩, 16), (⟨"LoftGraves$Text", "begin", "()V"⟩, 5), (⟨"LoftGraves$Text", "goesOn", "()Z"⟩, 5), (⟨"LoftGraves$Text", "skipBlanks", "()V"⟩, 5), (⟨"LoftGraves$Text", "byteAt", "(I)I"⟩, 5), (⟨"LoftGraves$Parish", "readClause", "(LLoftGraves$Text;)V"⟩, 16), (⟨"LoftGraves$Text", "takeWord", "(Ljava/lang/String;)Z"⟩, 5), (⟨"LoftGraves$Parish", "readSun", "(LLoftGraves$Text;I)V"⟩, 16), (⟨"LoftGraves$Text", "blame", "(II)V"⟩, 5), (⟨"LoftGraves$Text", "takeNumber", "(II)I"⟩, 5), (⟨"LoftGraves$Text", "takeStop", "()V"⟩, 5), (⟨"LoftGraves$Parish", "readYard", "(LLoftGraves$Text;I)V"⟩, 16), (⟨"LoftGraves$Parish", "readDead", "(LLoftGraves$Text;I)V"⟩, 16)]
theorem lw_r1 : ∀ q ∈ lw_privs_1, lw_okq q := List.forall_mem_cons.mpr ⟨lw_p0, List.forall_mem_cons.mpr ⟨lw_p1, List.forall_mem_cons.mpr ⟨lw_p2, List.forall_mem_cons.mpr ⟨lw_p3, List.forall_mem_cons.mpr ⟨lw_p4, List.forall_mem_cons.mpr ⟨lw_p5, List.forall_mem_cons.mpr ⟨lw_p6, List.forall_mem_cons.mpr ⟨lw_p7, List.forall_mem_cons.mpr ⟨lw_p8, List.forall_mem_cons.mpr ⟨lw_p9, List.forall_mem_cons.mpr ⟨lw_p10, List.forall_mem_cons.mpr ⟨lw_p11, List.forall_mem_cons.mpr ⟨lw_p12, List.forall_mem_cons.mpr ⟨lw_p13, List.forall_mem_cons.mpr ⟨lw_p14, List.forall_mem_cons.mpr ⟨lw_p15, fun _ h => absurd h List.not_mem_nil⟩⟩⟩⟩⟩⟩⟩⟩⟩⟩⟩⟩⟩⟩⟩⟩
theorem lw_p16 : lw_okq (⟨"LoftGraves$Parish", "copyFrom", "(LLoftGraves$Parish;)V"⟩, 16) := ⟨⟨by decide +kernel, by decide +kernel⟩, List.mem_of_getElem? (i := 69) (by decide +kernel), List.mem_of_getElem? (i := 375) (by decide +kernel), List.mem_of_getElem? (i := 376) (by decide +kernel)⟩
theorem lw_p17 : lw_okq (⟨"LoftGraves$Custom", "readFrom", "(LLoftGraves$Text;)V"⟩, 2) := ⟨⟨by decide +kernel, by decide +kernel⟩, List.mem_of_getElem? (i := 52) (by decide +kernel), List.mem_of_getElem? (i := 390) (by decide +kernel), List.mem_of_getElem? (i := 391) (by decide +kernel)⟩
theorem lw_p18 : lw_okq (⟨"LoftGraves$Custom", "readClause", "(LLoftGraves$Text;)V"⟩, 2) := ⟨⟨by decide +kernel, by decide +kernel⟩, List.mem_of_getElem? (i := 52) (by decide +kernel), List.mem_of_getElem? (i := 396) (by decide +kernel), List.mem_of_getElem? (i := 397) (by decide +kernel)⟩
theorem lw_p19 : lw_okq (⟨"LoftGraves$Custom", "counts", "(I)Z"⟩, 2) := ⟨⟨by decide +kernel, by decide +kernel⟩, List.mem_of_getElem? (i := 52) (by decide +kernel), List.mem_of_getElem? (i := 406) (by decide +kernel), List.mem_of_getElem? (i := 407) (by decide +kernel)⟩
theorem lw_p20 : lw_okq (⟨"LoftGraves$Custom", "copyFrom", "(LLoftGraves$Custom;)V"⟩, 2) := ⟨⟨by decide +kernel, by decide +kernel⟩, List.mem_of_getElem? (i := 52) (by decide +kernel), List.mem_of_getElem? (i := 413) (by decide +kernel), List.mem_of_getElem? (i := 414) (by decide +kernel)⟩
theorem lw_p21 : lw_okq (⟨"LoftGraves$Parish", "waiting", "()I"⟩, 16) := ⟨⟨by decide +kernel, by decide +kernel⟩, List.mem_of_getElem? (i := 69) (by decide +kernel), List.mem_of_getElem? (i := 426) (by decide +kernel), List.mem_of_getElem? (i := 427) (by decide +kernel)⟩
theorem lw_p22 : lw_okq (⟨"LoftGraves$Parish", "laid", "()I"⟩, 16) := ⟨⟨by decide +kernel, by decide +kernel⟩, List.mem_of_getElem? (i := 69) (by decide +kernel), List.mem_of_getElem? (i := 430) (by decide +kernel), List.mem_of_getElem? (i := 431) (by decide +kernel)⟩
theorem lw_p23 : lw_okq (⟨"LoftGraves$Parish", "hasYard", "(I)Z"⟩, 16) := ⟨⟨by decide +kernel, by decide +kernel⟩, List.mem_of_getElem? (i := 69) (by decide +kernel), List.mem_of_getElem? (i := 441) (by decide +kernel), List.mem_of_getElem? (i := 442) (by decide +kernel)⟩
theorem lw_p24 : lw_okq (⟨"LoftGraves$Parish", "whoLiesIn", "(I)I"⟩, 16) := ⟨⟨by decide +kernel, by decide +kernel⟩, List.mem_of_getElem? (i := 69) (by decide +kernel), List.mem_of_getElem? (i := 446) (by decide +kernel), List.mem_of_getElem? (i := 447) (by decide +kernel)⟩
theorem lw_p25 : lw_okq (⟨"LoftGraves$Parish", "hasDead", "(I)Z"⟩, 16) := ⟨⟨by decide +kernel, by decide +kernel⟩, List.mem_of_getElem? (i := 69) (by decide +kernel), List.mem_of_getElem? (i := 454) (by decide +kernel), List.mem_of_getElem? (i := 455) (by decide +kernel)⟩
theorem lw_p26 : lw_okq (⟨"LoftGraves$Parish", "placeAmong", "(LLoftGraves$Custom;II)I"⟩, 16) := ⟨⟨by decide +kernel, by decide +kernel⟩, List.mem_of_getElem? (i := 69) (by decide +kernel), List.mem_of_getElem? (i := 465) (by decide +kernel), List.mem_of_getElem? (i := 466) (by decide +kernel)⟩
theorem lw_p27 : lw_okq (⟨"LoftGraves$Parish", "urgentClaim", "(LLoftGraves$Custom;I)J"⟩, 16) := ⟨⟨by decide +kernel, by decide +kernel⟩, List.mem_of_getElem? (i := 69) (by decide +kernel), List.mem_of_getElem? (i := 469) (by decide +kernel), List.mem_of_getElem? (i := 470) (by decide +kernel)⟩
theorem lw_p28 : lw_okq (⟨"LoftGraves$Parish", "claim", "(LLoftGraves$Custom;I)J"⟩, 16) := ⟨⟨by decide +kernel, by decide +kernel⟩, List.mem_of_getElem? (i := 69) (by decide +kernel), List.mem_of_getElem? (i := 473) (by decide +kernel), List.mem_of_getElem? (i := 474) (by decide +kernel)⟩
theorem lw_p29 : lw_okq (⟨"LoftGraves$Parish", "worth", "(II)I"⟩, 16) := ⟨⟨by decide +kernel, by decide +kernel⟩, List.mem_of_getElem? (i := 69) (by decide +kernel), List.mem_of_getElem? (i := 478) (by decide +kernel), List.mem_of_getElem? (i := 479) (by decide +kernel)⟩
theorem lw_p30 : lw_okq (⟨"LoftGraves$Parish", "passDay", "(I)V"⟩, 16) := ⟨⟨by decide +kernel, by decide +kernel⟩, List.mem_of_getElem? (i := 69) (by decide +kernel), List.mem_of_getElem? (i := 506) (by decide +kernel), List.mem_of_getElem? (i := 507) (by decide +kernel)⟩
theorem lw_p31 : lw_okq (⟨"LoftGraves$Parish", "taken", "()I"⟩, 16) := ⟨⟨by decide +kernel, by decide +kernel⟩, List.mem_of_getElem? (i := 69) (by decide +kernel), List.mem_of_getElem? (i := 510) (by decide +kernel), List.mem_of_getElem? (i := 511) (by decide +kernel)⟩
def lw_privs_2 : List (MethodName × Nat) := [(⟨"LoftGraves$Parish", "copyFrom", "(LLoftGraves$Parish;)V"⟩, 16), (⟨"LoftGraves$Custom", "readFrom", "(LLoftGraves$Text;)V"⟩, 2), (⟨"LoftGraves$Custom", "readClause", "(LLoftGraves$Text;)V"⟩, 2), (⟨"LoftGraves$Custom", "counts", "(I)Z"⟩, 2), (⟨"LoftGraves$Custom", "copyFrom", "(LLoftGraves$Custom;)V"⟩, 2), (⟨"LoftGraves$Parish", "waiting", "()I"⟩, 16), (⟨"LoftGraves$Parish", "laid", "()I"⟩, 16), (⟨"LoftGraves$Parish", "hasYard", "(I)Z"⟩, 16), (⟨"LoftGraves$Parish", "whoLiesIn", "(I)I"⟩, 16), (⟨"LoftGraves$Parish", "hasDead", "(I)Z"⟩, 16), (⟨"LoftGraves$Parish", "placeAmong", "(LLoftGraves$Custom;II)I"⟩, 16), (⟨"LoftGraves$Parish", "urgentClaim", "(LLoftGraves$Custom;I)J"⟩, 16), (⟨"LoftGraves$Parish", "claim", "(LLoftGraves$Custom;I)J"⟩, 16), (⟨"LoftGraves$Parish", "worth", "(II)I"⟩, 16), (⟨"LoftGraves$Parish", "passDay", "(I)V"⟩, 16), (⟨"LoftGraves$Parish", "taken", "()I"⟩, 16)]
theorem lw_r2 : ∀ q ∈ lw_privs_2, lw_okq q := List.forall_mem_cons.mpr ⟨lw_p16, List.forall_mem_cons.mpr ⟨lw_p17, List.forall_mem_cons.mpr ⟨lw_p18, List.forall_mem_cons.mpr ⟨lw_p19, List.forall_mem_cons.mpr ⟨lw_p20, List.forall_mem_cons.mpr ⟨lw_p21, List.forall_mem_cons.mpr ⟨lw_p22, List.forall_mem_cons.mpr ⟨lw_p23, List.forall_mem_cons.mpr ⟨lw_p24, List.forall_mem_cons.mpr ⟨lw_p25, List.forall_mem_cons.mpr ⟨lw_p26, List.forall_mem_cons.mpr ⟨lw_p27, List.forall_mem_cons.mpr ⟨lw_p28, List.forall_mem_cons.mpr ⟨lw_p29, List.forall_mem_cons.mpr ⟨lw_p30, List.forall_mem_cons.mpr ⟨lw_p31, fun _ h => absurd h List.not_mem_nil⟩⟩⟩⟩⟩⟩⟩⟩⟩⟩⟩⟩⟩⟩⟩⟩
theorem lw_p32 : lw_okq (⟨"LoftGraves$Parish", "thawOf", "(II)I"⟩, 16) := ⟨⟨by decide +kernel, by decide +kernel⟩, List.mem_of_getElem? (i := 69) (by decide +kernel), List.mem_of_getElem? (i := 514) (by decide +kernel), List.mem_of_getElem? (i := 515) (by decide +kernel)⟩
theorem lw_p33 : lw_okq (⟨"LoftGraves$Parish", "soft", "()I"⟩, 16) := ⟨⟨by decide +kernel, by decide +kernel⟩, List.mem_of_getElem? (i := 69) (by decide +kernel), List.mem_of_getElem? (i := 523) (by decide +kernel), List.mem_of_getElem? (i := 524) (by decide +kernel)⟩
theorem lw_p34 : lw_okq (⟨"LoftGraves$Parish", "passNight", "(I)V"⟩, 16) := ⟨⟨by decide +kernel, by decide +kernel⟩, List.mem_of_getElem? (i := 69) (by decide +kernel), List.mem_of_getElem? (i := 531) (by decide +kernel), List.mem_of_getElem? (i := 532) (by decide +kernel)⟩
theorem lw_p35 : lw_okq (⟨"LoftGraves$Parish", "draw", "(I)I"⟩, 16) := ⟨⟨by decide +kernel, by decide +kernel⟩, List.mem_of_getElem? (i := 69) (by decide +kernel), List.mem_of_getElem? (i := 535) (by decide +kernel), List.mem_of_getElem? (i := 536) (by decide +kernel)⟩
theorem lw_p36 : lw_okq (⟨"LoftGraves$Parish", "boardless", "()I"⟩, 16) := ⟨⟨by decide +kernel, by decide +kernel⟩, List.mem_of_getElem? (i := 69) (by decide +kernel), List.mem_of_getElem? (i := 543) (by decide +kernel), List.mem_of_getElem? (i := 544) (by decide +kernel)⟩
theorem lw_p37 : lw_okq (⟨"LoftGraves$Parish", "layDown", "(II)I"⟩, 16) := ⟨⟨by decide +kernel, by decide +kernel⟩, List.mem_of_getElem? (i := 69) (by decide +kernel), List.mem_of_getElem? (i := 552) (by decide +kernel), List.mem_of_getElem? (i := 553) (by decide +kernel)⟩
theorem lw_p38 : lw_okq (⟨"LoftGraves", "useSpades", "(I)V"⟩, 12) := ⟨⟨by decide +kernel, by decide +kernel⟩, List.mem_of_getElem? (i := 16) (by decide +kernel), List.mem_of_getElem? (i := 561) (by decide +kernel), List.mem_of_getElem? (i := 562) (by decide +kernel)⟩
theorem lw_p39 : lw_okq (⟨"LoftGraves$Parish", "firstAmong", "(LLoftGraves$Custom;I)I"⟩, 16) := ⟨⟨by decide +kernel, by decide +kernel⟩, List.mem_of_getElem? (i := 69) (by decide +kernel), List.mem_of_getElem? (i := 565) (by decide +kernel), List.mem_of_getElem? (i := 566) (by decide +kernel)⟩
theorem lw_p40 : lw_okq (⟨"LoftGraves$Parish", "softAndFree", "()I"⟩, 16) := ⟨⟨by decide +kernel, by decide +kernel⟩, List.mem_of_getElem? (i := 69) (by decide +kernel), List.mem_of_getElem? (i := 570) (by decide +kernel), List.mem_of_getElem? (i := 571) (by decide +kernel)⟩
theorem lw_p41 : lw_okq (⟨"LoftGraves$Plan", "begin", "(LLoftGraves$Parish;LLoftGraves$Custom;)V"⟩, 6) := ⟨⟨by decide +kernel, by decide +kernel⟩, List.mem_of_getElem? (i := 164) (by decide +kernel), List.mem_of_getElem? (i := 589) (by decide +kernel), List.mem_of_getElem? (i := 590) (by decide +kernel)⟩
theorem lw_p42 : lw_okq (⟨"LoftGraves$Plan", "whoOffends", "(I)I"⟩, 6) := ⟨⟨by decide +kernel, by decide +kernel⟩, List.mem_of_getElem? (i := 164) (by decide +kernel), List.mem_of_getElem? (i := 598) (by decide +kernel), List.mem_of_getElem? (i := 599) (by decide +kernel)⟩
theorem lw_p43 : lw_okq (⟨"LoftGraves$Plan", "offends", "(II)Z"⟩, 6) := ⟨⟨by decide +kernel, by decide +kernel⟩, List.mem_of_getElem? (i := 164) (by decide +kernel), List.mem_of_getElem? (i := 602) (by decide +kernel), List.mem_of_getElem? (i := 603) (by decide +kernel)⟩
theorem lw_p44 : lw_okq (⟨"LoftGraves$Plan", "quarrelsNow", "()I"⟩, 6) := ⟨⟨by decide +kernel, by decide +kernel⟩, List.mem_of_getElem? (i := 164) (by decide +kernel), List.mem_of_getElem? (i := 611) (by decide +kernel), List.mem_of_getElem? (i := 612) (by decide +kernel)⟩
theorem lw_p45 : lw_okq (⟨"LoftGraves$Plan", "quarrelsAmong", "(II)I"⟩, 6) := ⟨⟨by decide +kernel, by decide +kernel⟩, List.mem_of_getElem? (i := 164) (by decide +kernel), List.mem_of_getElem? (i := 615) (by decide +kernel), List.mem_of_getElem? (i := 616) (by decide +kernel)⟩
theorem lw_p46 : lw_okq (⟨"LoftGraves$Plan", "quarrelsOf", "(II)I"⟩, 6) := ⟨⟨by decide +kernel, by decide +kernel⟩, List.mem_of_getElem? (i := 164) (by decide +kernel), List.mem_of_getElem? (i := 619) (by decide +kernel), List.mem_of_getElem? (i := 620) (by decide +kernel)⟩
theorem lw_p47 : lw_okq (⟨"LoftGraves$Plan", "find", "(II)V"⟩, 6) := ⟨⟨by decide +kernel, by decide +kernel⟩, List.mem_of_getElem? (i := 164) (by decide +kernel), List.mem_of_getElem? (i := 630) (by decide +kernel), List.mem_of_getElem? (i := 631) (by decide +kernel)⟩
def lw_privs_3 : List (MethodName × Nat) := [(⟨"LoftGraves$Parish", "thawOf", "(II)I"⟩, 16), (⟨"LoftGraves$Parish", "soft", "()I"⟩, 16), (⟨"LoftGraves$Parish", "passNight", "(I)V"⟩, 16), (⟨"LoftGraves$Parish", "draw", "(I)I"⟩, 16), (⟨"LoftGraves$Parish", "boardless", "()I"⟩, 16), (⟨"LoftGraves$Parish", "layDown", "(II)I"⟩, 16), (⟨"LoftGraves", "useSpades", "(I)V"⟩, 12), (⟨"LoftGraves$Parish", "firstAmong", "(LLoftGraves$Custom;I)I"⟩, 16), (⟨"LoftGraves$Parish", "softAndFree", "()I"⟩, 16), (⟨"LoftGraves$Plan", "begin", "(LLoftGraves$Parish;LLoftGraves$Custom;)V"⟩, 6), (⟨"LoftGraves$Plan", "whoOffends", "(I)I"⟩, 6), (⟨"LoftGraves$Plan", "offends", "(II)Z"⟩, 6), (⟨"LoftGraves$Plan", "quarrelsNow", "()I"⟩, 6), (⟨"LoftGraves$Plan", "quarrelsAmong", "(II)I"⟩, 6), (⟨"LoftGraves$Plan", "quarrelsOf", "(II)I"⟩, 6), (⟨"LoftGraves$Plan", "find", "(II)V"⟩, 6)]
theorem lw_r3 : ∀ q ∈ lw_privs_3, lw_okq q := List.forall_mem_cons.mpr ⟨lw_p32, List.forall_mem_cons.mpr ⟨lw_p33, List.forall_mem_cons.mpr ⟨lw_p34, List.forall_mem_cons.mpr ⟨lw_p35, List.forall_mem_cons.mpr ⟨lw_p36, List.forall_mem_cons.mpr ⟨lw_p37, List.forall_mem_cons.mpr ⟨lw_p38, List.forall_mem_cons.mpr ⟨lw_p39, List.forall_mem_cons.mpr ⟨lw_p40, List.forall_mem_cons.mpr ⟨lw_p41, List.forall_mem_cons.mpr ⟨lw_p42, List.forall_mem_cons.mpr ⟨lw_p43, List.forall_mem_cons.mpr ⟨lw_p44, List.forall_mem_cons.mpr ⟨lw_p45, List.forall_mem_cons.mpr ⟨lw_p46, List.forall_mem_cons.mpr ⟨lw_p47, fun _ h => absurd h List.not_mem_nil⟩⟩⟩⟩⟩⟩⟩⟩⟩⟩⟩⟩⟩⟩⟩⟩
theorem lw_p48 : lw_okq (⟨"LoftGraves$Parish", "daysUntilSoft", "(II)I"⟩, 16) := ⟨⟨by decide +kernel, by decide +kernel⟩, List.mem_of_getElem? (i := 69) (by decide +kernel), List.mem_of_getElem? (i := 644) (by decide +kernel), List.mem_of_getElem? (i := 645) (by decide +kernel)⟩
theorem lw_p49 : lw_okq (⟨"LoftGraves$Parish", "softBehind", "(II)I"⟩, 16) := ⟨⟨by decide +kernel, by decide +kernel⟩, List.mem_of_getElem? (i := 69) (by decide +kernel), List.mem_of_getElem? (i := 648) (by decide +kernel), List.mem_of_getElem? (i := 649) (by decide +kernel)⟩
theorem lw_p50 : lw_okq (⟨"LoftGraves", "leastBribe", "(II)I"⟩, 12) := ⟨⟨by decide +kernel, by decide +kernel⟩, List.mem_of_getElem? (i := 16) (by decide +kernel), List.mem_of_getElem? (i := 660) (by decide +kernel), List.mem_of_getElem? (i := 661) (by decide +kernel)⟩
theorem lw_p51 : lw_okq (⟨"LoftGraves$Naming", "countWays", "(LLoftGraves$Parish;)I"⟩, 1) := ⟨⟨by decide +kernel, by decide +kernel⟩, List.mem_of_getElem? (i := 192) (by decide +kernel), List.mem_of_getElem? (i := 677) (by decide +kernel), List.mem_of_getElem? (i := 678) (by decide +kernel)⟩
theorem lw_p52 : lw_okq (⟨"LoftGraves$Naming", "weigh", "(LLoftGraves$Parish;)V"⟩, 1) := ⟨⟨by decide +kernel, by decide +kernel⟩, List.mem_of_getElem? (i := 192) (by decide +kernel), List.mem_of_getElem? (i := 691) (by decide +kernel), List.mem_of_getElem? (i := 692) (by decide +kernel)⟩
theorem lw_p53 : lw_okq (⟨"LoftGraves$Naming", "changesWith", "(LLoftGraves$Parish;II)I"⟩, 1) := ⟨⟨by decide +kernel, by decide +kernel⟩, List.mem_of_getElem? (i := 192) (by decide +kernel), List.mem_of_getElem? (i := 695) (by decide +kernel), List.mem_of_getElem? (i := 696) (by decide +kernel)⟩
theorem lw_p54 : lw_okq (⟨"LoftGraves$Naming", "fewestChanges", "()I"⟩, 1) := ⟨⟨by decide +kernel, by decide +kernel⟩, List.mem_of_getElem? (i := 192) (by decide +kernel), List.mem_of_getElem? (i := 700) (by decide +kernel), List.mem_of_getElem? (i := 701) (by decide +kernel)⟩
theorem lw_p55 : lw_okq (⟨"LoftGraves$Naming", "nameOf", "(LLoftGraves$Parish;I)I"⟩, 1) := ⟨⟨by decide +kernel, by decide +kernel⟩, List.mem_of_getElem? (i := 192) (by decide +kernel), List.mem_of_getElem? (i := 704) (by decide +kernel), List.mem_of_getElem? (i := 705) (by decide +kernel)⟩
theorem lw_p56 : lw_okq (⟨"LoftGraves$Parish", "ranksOf", "(I)I"⟩, 16) := ⟨⟨by decide +kernel, by decide +kernel⟩, List.mem_of_getElem? (i := 69) (by decide +kernel), List.mem_of_getElem? (i := 712) (by decide +kernel), List.mem_of_getElem? (i := 713) (by decide +kernel)⟩
theorem lw_p57 : lw_okq (⟨"LoftGraves$Book", "add", "(II)V"⟩, 3) := ⟨⟨by decide +kernel, by decide +kernel⟩, List.mem_of_getElem? (i := 145) (by decide +kernel), List.mem_of_getElem? (i := 721) (by decide +kernel), List.mem_of_getElem? (i := 722) (by decide +kernel)⟩
theorem lw_p58 : lw_okq (⟨"LoftGravesModel", "start", "()V"⟩, 31) := ⟨⟨by decide +kernel, by decide +kernel⟩, List.mem_of_getElem? (i := 746) (by decide +kernel), List.mem_of_getElem? (i := 862) (by decide +kernel), List.mem_of_getElem? (i := 863) (by decide +kernel)⟩
theorem lw_p59 : lw_okq (⟨"LoftGravesModel", "here", "()I"⟩, 31) := ⟨⟨by decide +kernel, by decide +kernel⟩, List.mem_of_getElem? (i := 746) (by decide +kernel), List.mem_of_getElem? (i := 866) (by decide +kernel), List.mem_of_getElem? (i := 867) (by decide +kernel)⟩
theorem lw_p60 : lw_okq (⟨"LoftGravesModel", "takeClause", "()V"⟩, 31) := ⟨⟨by decide +kernel, by decide +kernel⟩, List.mem_of_getElem? (i := 746) (by decide +kernel), List.mem_of_getElem? (i := 870) (by decide +kernel), List.mem_of_getElem? (i := 871) (by decide +kernel)⟩
theorem lw_p61 : lw_okq (⟨"LoftGravesModel", "takeWord", "()V"⟩, 31) := ⟨⟨by decide +kernel, by decide +kernel⟩, List.mem_of_getElem? (i := 746) (by decide +kernel), List.mem_of_getElem? (i := 874) (by decide +kernel), List.mem_of_getElem? (i := 875) (by decide +kernel)⟩
theorem lw_p62 : lw_okq (⟨"LoftGravesModel", "isWord", "(IIIIII)Z"⟩, 31) := ⟨⟨by decide +kernel, by decide +kernel⟩, List.mem_of_getElem? (i := 746) (by decide +kernel), List.mem_of_getElem? (i := 880) (by decide +kernel), List.mem_of_getElem? (i := 881) (by decide +kernel)⟩
theorem lw_p63 : lw_okq (⟨"LoftGravesModel", "want", "(ZII)Z"⟩, 31) := ⟨⟨by decide +kernel, by decide +kernel⟩, List.mem_of_getElem? (i := 746) (by decide +kernel), List.mem_of_getElem? (i := 884) (by decide +kernel), List.mem_of_getElem? (i := 885) (by decide +kernel)⟩
def lw_privs_4 : List (MethodName × Nat) := [(⟨"LoftGraves$Parish", "daysUntilSoft", "(II)I"⟩, 16), (⟨"LoftGraves$Parish", "softBehind", "(II)I"⟩, 16), (⟨"LoftGraves", "leastBribe", "(II)I"⟩, 12), (⟨"LoftGraves$Naming", "countWays", "(LLoftGraves$Parish;)I"⟩, 1), (⟨"LoftGraves$Naming", "weigh", "(LLoftGraves$Parish;)V"⟩, 1), (⟨"LoftGraves$Naming", "changesWith", "(LLoftGraves$Parish;II)I"⟩, 1), (⟨"LoftGraves$Naming", "fewestChanges", "()I"⟩, 1), (⟨"LoftGraves$Naming", "nameOf", "(LLoftGraves$Parish;I)I"⟩, 1), (⟨"LoftGraves$Parish", "ranksOf", "(I)I"⟩, 16), (⟨"LoftGraves$Book", "add", "(II)V"⟩, 3), (⟨"LoftGravesModel", "start", "()V"⟩, 31), (⟨"LoftGravesModel", "here", "()I"⟩, 31), (⟨"LoftGravesModel", "takeClause", "()V"⟩, 31), (⟨"LoftGravesModel", "takeWord", "()V"⟩, 31), (⟨"LoftGravesModel", "isWord", "(IIIIII)Z"⟩, 31), (⟨"LoftGravesModel", "want", "(ZII)Z"⟩, 31)]
theorem lw_r4 : ∀ q ∈ lw_privs_4, lw_okq q := List.forall_mem_cons.mpr ⟨lw_p48, List.forall_mem_cons.mpr ⟨lw_p49, List.forall_mem_cons.mpr ⟨lw_p50, List.forall_mem_cons.mpr ⟨lw_p51, List.forall_mem_cons.mpr ⟨lw_p52, List.forall_mem_cons.mpr ⟨lw_p53, List.forall_mem_cons.mpr ⟨lw_p54, List.forall_mem_cons.mpr ⟨lw_p55, List.forall_mem_cons.mpr ⟨lw_p56, List.forall_mem_cons.mpr ⟨lw_p57, List.forall_mem_cons.mpr ⟨lw_p58, List.forall_mem_cons.mpr ⟨lw_p59, List.forall_mem_cons.mpr ⟨lw_p60, List.forall_mem_cons.mpr ⟨lw_p61, List.forall_mem_cons.mpr ⟨lw_p62, List.forall_mem_cons.mpr ⟨lw_p63, fun _ h => absurd h List.not_mem_nil⟩⟩⟩⟩⟩⟩⟩⟩⟩⟩⟩⟩⟩⟩⟩⟩
theorem lw_p64 : lw_okq (⟨"LoftGravesModel", "takeNumber", "(II)I"⟩, 31) := ⟨⟨by decide +kernel, by decide +kernel⟩, List.mem_of_getElem? (i := 746) (by decide +kernel), List.mem_of_getElem? (i := 888) (by decide +kernel), List.mem_of_getElem? (i := 889) (by decide +kernel)⟩
theorem lw_p65 : lw_okq (⟨"LoftGravesModel", "takeEnd", "()V"⟩, 31) := ⟨⟨by decide +kernel, by decide +kernel⟩, List.mem_of_getElem? (i := 746) (by decide +kernel), List.mem_of_getElem? (i := 895) (by decide +kernel), List.mem_of_getElem? (i := 896) (by decide +kernel)⟩
theorem lw_p66 : lw_okq (⟨"LoftGravesModel", "loft", "(I)I"⟩, 31) := ⟨⟨by decide +kernel, by decide +kernel⟩, List.mem_of_getElem? (i := 746) (by decide +kernel), List.mem_of_getElem? (i := 914) (by decide +kernel), List.mem_of_getElem? (i := 915) (by decide +kernel)⟩
theorem lw_p67 : lw_okq (⟨"LoftGravesModel", "isInLoft", "(II)Z"⟩, 31) := ⟨⟨by decide +kernel, by decide +kernel⟩, List.mem_of_getElem? (i := 746) (by decide +kernel), List.mem_of_getElem? (i := 918) (by decide +kernel), List.mem_of_getElem? (i := 919) (by decide +kernel)⟩
theorem lw_p68 : lw_okq (⟨"LoftGravesModel", "laid", "(I)I"⟩, 31) := ⟨⟨by decide +kernel, by decide +kernel⟩, List.mem_of_getElem? (i := 746) (by decide +kernel), List.mem_of_getElem? (i := 925) (by decide +kernel), List.mem_of_getElem? (i := 926) (by decide +kernel)⟩
theorem lw_p69 : lw_okq (⟨"LoftGravesModel", "isYard", "(I)Z"⟩, 31) := ⟨⟨by decide +kernel, by decide +kernel⟩, List.mem_of_getElem? (i := 746) (by decide +kernel), List.mem_of_getElem? (i := 933) (by decide +kernel), List.mem_of_getElem? (i := 934) (by decide +kernel)⟩
theorem lw_p70 : lw_okq (⟨"LoftGravesModel", "who", "(II)I"⟩, 31) := ⟨⟨by decide +kernel, by decide +kernel⟩, List.mem_of_getElem? (i := 746) (by decide +kernel), List.mem_of_getElem? (i := 938) (by decide +kernel), List.mem_of_getElem? (i := 939) (by decide +kernel)⟩
theorem lw_p71 : lw_okq (⟨"LoftGravesModel", "isDead", "(I)Z"⟩, 31) := ⟨⟨by decide +kernel, by decide +kernel⟩, List.mem_of_getElem? (i := 746) (by decide +kernel), List.mem_of_getElem? (i := 946) (by decide +kernel), List.mem_of_getElem? (i := 947) (by decide +kernel)⟩
theorem lw_p72 : lw_okq (⟨"LoftGravesModel", "inOrder", "(II)I"⟩, 31) := ⟨⟨by decide +kernel, by decide +kernel⟩, List.mem_of_getElem? (i := 746) (by decide +kernel), List.mem_of_getElem? (i := 954) (by decide +kernel), List.mem_of_getElem? (i := 955) (by decide +kernel)⟩
theorem lw_p73 : lw_okq (⟨"LoftGravesModel", "placeOf", "(II)I"⟩, 31) := ⟨⟨by decide +kernel, by decide +kernel⟩, List.mem_of_getElem? (i := 746) (by decide +kernel), List.mem_of_getElem? (i := 958) (by decide +kernel), List.mem_of_getElem? (i := 959) (by decide +kernel)⟩
theorem lw_p74 : lw_okq (⟨"LoftGravesModel", "isAhead", "(III)Z"⟩, 31) := ⟨⟨by decide +kernel, by decide +kernel⟩, List.mem_of_getElem? (i := 746) (by decide +kernel), List.mem_of_getElem? (i := 962) (by decide +kernel), List.mem_of_getElem? (i := 963) (by decide +kernel)⟩
theorem lw_p75 : lw_okq (⟨"LoftGravesModel", "isAheadByCustom", "(III)Z"⟩, 31) := ⟨⟨by decide +kernel, by decide +kernel⟩, List.mem_of_getElem? (i := 746) (by decide +kernel), List.mem_of_getElem? (i := 966) (by decide +kernel), List.mem_of_getElem? (i := 967) (by decide +kernel)⟩
theorem lw_p76 : lw_okq (⟨"LoftGravesModel", "valueBy", "(III)I"⟩, 31) := ⟨⟨by decide +kernel, by decide +kernel⟩, List.mem_of_getElem? (i := 746) (by decide +kernel), List.mem_of_getElem? (i := 970) (by decide +kernel), List.mem_of_getElem? (i := 971) (by decide +kernel)⟩
theorem lw_p77 : lw_okq (⟨"LoftGravesModel", "pass", "(I)V"⟩, 31) := ⟨⟨by decide +kernel, by decide +kernel⟩, List.mem_of_getElem? (i := 746) (by decide +kernel), List.mem_of_getElem? (i := 995) (by decide +kernel), List.mem_of_getElem? (i := 996) (by decide +kernel)⟩
theorem lw_p78 : lw_okq (⟨"LoftGravesModel", "rate", "(II)I"⟩, 31) := ⟨⟨by decide +kernel, by decide +kernel⟩, List.mem_of_getElem? (i := 746) (by decide +kernel), List.mem_of_getElem? (i := 999) (by decide +kernel), List.mem_of_getElem? (i := 1000) (by decide +kernel)⟩
theorem lw_p79 : lw_okq (⟨"LoftGravesModel", "softYards", "()I"⟩, 31) := ⟨⟨by decide +kernel, by decide +kernel⟩, List.mem_of_getElem? (i := 746) (by decide +kernel), List.mem_of_getElem? (i := 1003) (by decide +kernel), List.mem_of_getElem? (i := 1004) (by decide +kernel)⟩
def lw_privs_5 : List (MethodName × Nat) := [(⟨"LoftGravesModel", "takeNumber", "(II)I"⟩, 31), (⟨"LoftGravesModel", "takeEnd", "()V"⟩, 31), (⟨"LoftGravesModel", "loft", "(I)I"⟩, 31), (⟨"LoftGravesModel", "isInLoft", "(II)Z"⟩, 31), (⟨"LoftGravesModel", "laid", "(I)I"⟩, 31), (⟨"LoftGravesModel", "isYard", "(I)Z"⟩, 31), (⟨"LoftGravesModel", "who", "(II)I"⟩, 31), (⟨"LoftGravesModel", "isDead", "(I)Z"⟩, 31), (⟨"LoftGravesModel", "inOrder", "(II)I"⟩, 31), (⟨"LoftGravesModel", "placeOf", "(II)I"⟩, 31), (⟨"LoftGravesModel", "isAhead", "(III)Z"⟩, 31), (⟨"LoftGravesModel", "isAheadByCustom", "(III)Z"⟩, 31), (⟨"LoftGravesModel", "valueBy", "(III)I"⟩, 31), (⟨"LoftGravesModel", "pass", "(I)V"⟩, 31), (⟨"LoftGravesModel", "rate", "(II)I"⟩, 31), (⟨"LoftGravesModel", "softYards", "()I"⟩, 31)]
theorem lw_r5 : ∀ q ∈ lw_privs_5, lw_okq q := List.forall_mem_cons.mpr ⟨lw_p64, List.forall_mem_cons.mpr ⟨lw_p65, List.forall_mem_cons.mpr ⟨lw_p66, List.forall_mem_cons.mpr ⟨lw_p67, List.forall_mem_cons.mpr ⟨lw_p68, List.forall_mem_cons.mpr ⟨lw_p69, List.forall_mem_cons.mpr ⟨lw_p70, List.forall_mem_cons.mpr ⟨lw_p71, List.forall_mem_cons.mpr ⟨lw_p72, List.forall_mem_cons.mpr ⟨lw_p73, List.forall_mem_cons.mpr ⟨lw_p74, List.forall_mem_cons.mpr ⟨lw_p75, List.forall_mem_cons.mpr ⟨lw_p76, List.forall_mem_cons.mpr ⟨lw_p77, List.forall_mem_cons.mpr ⟨lw_p78, List.forall_mem_cons.mpr ⟨lw_p79, fun _ h => absurd h List.not_mem_nil⟩⟩⟩⟩⟩⟩⟩⟩⟩⟩⟩⟩⟩⟩⟩⟩
theorem lw_p80 : lw_okq (⟨"LoftGravesModel", "gnaw", "(I)V"⟩, 31) := ⟨⟨by decide +kernel, by decide +kernel⟩, List.mem_of_getElem? (i := 746) (by decide +kernel), List.mem_of_getElem? (i := 1012) (by decide +kernel), List.mem_of_getElem? (i := 1013) (by decide +kernel)⟩
theorem lw_p81 : lw_okq (⟨"LoftGravesModel", "draw", "(I)I"⟩, 31) := ⟨⟨by decide +kernel, by decide +kernel⟩, List.mem_of_getElem? (i := 746) (by decide +kernel), List.mem_of_getElem? (i := 1016) (by decide +kernel), List.mem_of_getElem? (i := 1017) (by decide +kernel)⟩
theorem lw_p82 : lw_okq (⟨"LoftGravesModel", "layIn", "(III)I"⟩, 31) := ⟨⟨by decide +kernel, by decide +kernel⟩, List.mem_of_getElem? (i := 746) (by decide +kernel), List.mem_of_getElem? (i := 1028) (by decide +kernel), List.mem_of_getElem? (i := 1029) (by decide +kernel)⟩
theorem lw_p83 : lw_okq (⟨"LoftGravesModel", "leastSoft", "()I"⟩, 31) := ⟨⟨by decide +kernel, by decide +kernel⟩, List.mem_of_getElem? (i := 746) (by decide +kernel), List.mem_of_getElem? (i := 1036) (by decide +kernel), List.mem_of_getElem? (i := 1037) (by decide +kernel)⟩
theorem lw_p84 : lw_okq (⟨"LoftGravesModel", "offends", "(III)Z"⟩, 31) := ⟨⟨by decide +kernel, by decide +kernel⟩, List.mem_of_getElem? (i := 746) (by decide +kernel), List.mem_of_getElem? (i := 1047) (by decide +kernel), List.mem_of_getElem? (i := 1048) (by decide +kernel)⟩
theorem lw_p85 : lw_okq (⟨"LoftGravesModel", "quarrelsIn", "(I)I"⟩, 31) := ⟨⟨by decide +kernel, by decide +kernel⟩, List.mem_of_getElem? (i := 746) (by decide +kernel), List.mem_of_getElem? (i := 1055) (by decide +kernel), List.mem_of_getElem? (i := 1056) (by decide +kernel)⟩
theorem lw_p86 : lw_okq (⟨"LoftGravesModel", "findLaying", "()Z"⟩, 31) := ⟨⟨by decide +kernel, by decide +kernel⟩, List.mem_of_getElem? (i := 746) (by decide +kernel), List.mem_of_getElem? (i := 1066) (by decide +kernel), List.mem_of_getElem? (i := 1067) (by decide +kernel)⟩
theorem lw_p87 : lw_okq (⟨"LoftGravesModel", "copy", "(II)V"⟩, 31) := ⟨⟨by decide +kernel, by decide +kernel⟩, List.mem_of_getElem? (i := 746) (by decide +kernel), List.mem_of_getElem? (i := 1070) (by decide +kernel), List.mem_of_getElem? (i := 1071) (by decide +kernel)⟩
theorem lw_p88 : lw_okq (⟨"LoftGravesModel", "isFree", "(I)Z"⟩, 31) := ⟨⟨by decide +kernel, by decide +kernel⟩, List.mem_of_getElem? (i := 746) (by decide +kernel), List.mem_of_getElem? (i := 1074) (by decide +kernel), List.mem_of_getElem? (i := 1075) (by decide +kernel)⟩
theorem lw_p89 : lw_okq (⟨"LoftGravesModel", "fill", "(II)Z"⟩, 31) := ⟨⟨by decide +kernel, by decide +kernel⟩, List.mem_of_getElem? (i := 746) (by decide +kernel), List.mem_of_getElem? (i := 1078) (by decide +kernel), List.mem_of_getElem? (i := 1079) (by decide +kernel)⟩
theorem lw_p90 : lw_okq (⟨"LoftGravesModel", "isUnlike", "(I)Z"⟩, 31) := ⟨⟨by decide +kernel, by decide +kernel⟩, List.mem_of_getElem? (i := 746) (by decide +kernel), List.mem_of_getElem? (i := 1082) (by decide +kernel), List.mem_of_getElem? (i := 1083) (by decide +kernel)⟩
theorem lw_p91 : lw_okq (⟨"LoftGravesModel", "goOn", "(I)Z"⟩, 31) := ⟨⟨by decide +kernel, by decide +kernel⟩, List.mem_of_getElem? (i := 746) (by decide +kernel), List.mem_of_getElem? (i := 1086) (by decide +kernel), List.mem_of_getElem? (i := 1087) (by decide +kernel)⟩
theorem lw_p92 : lw_okq (⟨"LoftGravesModel", "whenSoft", "(II)I"⟩, 31) := ⟨⟨by decide +kernel, by decide +kernel⟩, List.mem_of_getElem? (i := 746) (by decide +kernel), List.mem_of_getElem? (i := 1094) (by decide +kernel), List.mem_of_getElem? (i := 1095) (by decide +kernel)⟩
theorem lw_p93 : lw_okq (⟨"LoftGravesModel", "daysTill", "(II)I"⟩, 31) := ⟨⟨by decide +kernel, by decide +kernel⟩, List.mem_of_getElem? (i := 746) (by decide +kernel), List.mem_of_getElem? (i := 1098) (by decide +kernel), List.mem_of_getElem? (i := 1099) (by decide +kernel)⟩
theorem lw_p94 : lw_okq (⟨"LoftGravesModel", "findNames", "()V"⟩, 31) := ⟨⟨by decide +kernel, by decide +kernel⟩, List.mem_of_getElem? (i := 746) (by decide +kernel), List.mem_of_getElem? (i := 1123) (by decide +kernel), List.mem_of_getElem? (i := 1124) (by decide +kernel)⟩
theorem lw_p95 : lw_okq (⟨"LoftGravesModel", "ahead", "(I)I"⟩, 31) := ⟨⟨by decide +kernel, by decide +kernel⟩, List.mem_of_getElem? (i := 746) (by decide +kernel), List.mem_of_getElem? (i := 1127) (by decide +kernel), List.mem_of_getElem? (i := 1128) (by decide +kernel)⟩
def lw_privs_6 : List (MethodName × Nat) := [(⟨"LoftGravesModel", "gnaw", "(I)V"⟩, 31), (⟨"LoftGravesModel", "draw", "(I)I"⟩, 31), (⟨"LoftGravesModel", "layIn", "(III)I"⟩, 31), (⟨"LoftGravesModel", "leastSoft", "()I"⟩, 31), (⟨"LoftGravesModel", "offends", "(III)Z"⟩, 31), (⟨"LoftGravesModel", "quarrelsIn", "(I)I"⟩, 31), (⟨"LoftGravesModel", "findLaying", "()Z"⟩, 31), (⟨"LoftGravesModel", "copy", "(II)V"⟩, 31), (⟨"LoftGravesModel", "isFree", "(I)Z"⟩, 31), (⟨"LoftGravesModel", "fill", "(II)Z"⟩, 31), (⟨"LoftGravesModel", "isUnlike", "(I)Z"⟩, 31), (⟨"LoftGravesModel", "goOn", "(I)Z"⟩, 31), (⟨"LoftGravesModel", "whenSoft", "(II)I"⟩, 31), (⟨"LoftGravesModel", "daysTill", "(II)I"⟩, 31), (⟨"LoftGravesModel", "findNames", "()V"⟩, 31), (⟨"LoftGravesModel", "ahead", "(I)I"⟩, 31)]
theorem lw_r6 : ∀ q ∈ lw_privs_6, lw_okq q := List.forall_mem_cons.mpr ⟨lw_p80, List.forall_mem_cons.mpr ⟨lw_p81, List.forall_mem_cons.mpr ⟨lw_p82, List.forall_mem_cons.mpr ⟨lw_p83, List.forall_mem_cons.mpr ⟨lw_p84, List.forall_mem_cons.mpr ⟨lw_p85, List.forall_mem_cons.mpr ⟨lw_p86, List.forall_mem_cons.mpr ⟨lw_p87, List.forall_mem_cons.mpr ⟨lw_p88, List.forall_mem_cons.mpr ⟨lw_p89, List.forall_mem_cons.mpr ⟨lw_p90, List.forall_mem_cons.mpr ⟨lw_p91, List.forall_mem_cons.mpr ⟨lw_p92, List.forall_mem_cons.mpr ⟨lw_p93, List.forall_mem_cons.mpr ⟨lw_p94, List.forall_mem_cons.mpr ⟨lw_p95, fun _ h => absurd h List.not_mem_nil⟩⟩⟩⟩⟩⟩⟩⟩⟩⟩⟩⟩⟩⟩⟩⟩
def lw_privs : List (MethodName × Nat) := lw_privs_1 ++ (lw_privs_2 ++ (lw_privs_3 ++ (lw_privs_4 ++ (lw_privs_5 ++ (lw_privs_6)))))
def lw_tbl : List Cond := k2_sels lw_privs ++ tables_1
theorem lw_privs_ok : ∀ q ∈ lw_privs, lw_okq q := by
  show ∀ q ∈ lw_privs_1 ++ (lw_privs_2 ++ (lw_privs_3 ++ (lw_privs_4 ++ (lw_privs_5 ++ (lw_privs_6))))), lw_okq q
  exact List.forall_mem_append.mpr ⟨lw_r1, List.forall_mem_append.mpr ⟨lw_r2, List.forall_mem_append.mpr ⟨lw_r3, List.forall_mem_append.mpr ⟨lw_r4, List.forall_mem_append.mpr ⟨lw_r5, lw_r6⟩⟩⟩⟩⟩

/-! ===== BEGIN words of one list among another's, by their places ===== -/
theorem goodIn_r {big : List Cond} (ws : List Cond) (ps : List Nat) (hp : ws = ps.filterMap (fun i => big[i]?)) (h : ws.all goodWord = true) : GoodIn big ws := by
  intro w hw
  have h1 := List.all_eq_true.mp h w hw
  rw [hp] at hw
  obtain ⟨i, -, hi⟩ := List.mem_filterMap.mp hw
  have hm : w ∈ big := by first | exact List.mem_of_getElem? hi | exact List.getElem?_mem hi
  exact ⟨hm, good_of_word h1⟩
theorem goodIn_app {big a b : List Cond} (ha : GoodIn big a) (hb : GoodIn big b) : GoodIn big (a ++ b) := fun w h => (List.mem_append.mp h).elim (ha w) (hb w)
theorem goodIn_ca {big a b : List Cond} {c : Cond} (ha : GoodIn big (c :: a)) (hb : GoodIn big b) : GoodIn big (c :: (a ++ b)) := fun w h => (List.mem_cons.mp h).elim (fun e => ha w (List.mem_cons.mpr (Or.inl e))) (fun h => (List.mem_append.mp h).elim (fun h => ha w (List.mem_cons.mpr (Or.inr h))) (hb w))
theorem goodIn_sub {big ws : List Cond} (hm : ∀ w ∈ ws, w ∈ big) (h : ws.all goodWord = true) : GoodIn big ws := fun w hw => ⟨hm w hw, good_of_word (List.all_eq_true.mp h w hw)⟩
/-! ===== END ===== -/

/-! ===== BEGIN printed: names, fields, word lists, decode rows ===== -/
def RX0 : String := "LoftGraves$Book"
def TX0 : u_T := fun k => match k with
  | 0 => ("LoftGraves$Book", "who", "[I", true)
  | 1 => ("LoftGraves$Book", "where", "[I", true)
  | _ => ("LoftGraves$Book", "count", "I", false)
def tyX0 : Nat → FieldType := fun k => match k with
  | 0 => .array .int
  | 1 => .array .int
  | _ => .int
abbrev wsX00 : List Cond := u_ws RX0 TX0 3
theorem nmX0 : ∀ a, a < 3 → ∀ b, b < 3 → a ≠ b → (TX0 a).2.1 ≠ (TX0 b).2.1 := by decide +kernel
theorem tyX0_ok : ∀ k, k < 3 → parseFieldDescriptor (TX0 k).2.2.1 = some (tyX0 k) := by decide +kernel
abbrev cX0_init : ByteArray := prog_2_method_1_code
def yX0_init : MethodName := ⟨RX0, "<init>", "()V"⟩
abbrev cX0_add : ByteArray := prog_2_method_2_code
def yX0_add : MethodName := ⟨RX0, "add", "(II)V"⟩
def RX1 : String := "LoftGraves$Custom"
def TX1 : u_T := fun k => match k with
  | 0 => ("LoftGraves$Custom", "clauses", "[I", true)
  | _ => ("LoftGraves$Custom", "count", "I", false)
def tyX1 : Nat → FieldType := fun k => match k with
  | 0 => .array .int
  | _ => .int
abbrev wsX10 : List Cond := u_ws RX1 TX1 2
theorem nmX1 : ∀ a, a < 2 → ∀ b, b < 2 → a ≠ b → (TX1 a).2.1 ≠ (TX1 b).2.1 := by decide +kernel
theorem tyX1_ok : ∀ k, k < 2 → parseFieldDescriptor (TX1 k).2.2.1 = some (tyX1 k) := by decide +kernel
abbrev cX1_init : ByteArray := prog_3_method_1_code
def yX1_init : MethodName := ⟨RX1, "<init>", "()V"⟩
abbrev cX1_add : ByteArray := prog_3_method_2_code
def yX1_add : MethodName := ⟨RX1, "add", "(I)V"⟩
abbrev cX1_counts : ByteArray := prog_3_method_3_code
def yX1_counts : MethodName := ⟨RX1, "counts", "(I)Z"⟩
abbrev cX1_copyFrom : ByteArray := prog_3_method_4_code
def yX1_copyFrom : MethodName := ⟨RX1, "copyFrom", "(LLoftGraves$Custom;)V"⟩
abbrev cX1_readFrom : ByteArray := prog_3_method_5_code
def yX1_readFrom : MethodName := ⟨RX1, "readFrom", "(LLoftGraves$Text;)V"⟩
abbrev cX1_readClause : ByteArray := prog_3_method_6_code
def yX1_readClause : MethodName := ⟨RX1, "readClause", "(LLoftGraves$Text;)V"⟩
def RX2 : String := "LoftGraves$Naming"
def TX2 : u_T := fun k => match k with
  | _ => ("LoftGraves$Naming", "tally", "[I", true)
def tyX2 : Nat → FieldType := fun k => match k with
  | _ => .array .int
abbrev wsX20 : List Cond := u_ws RX2 TX2 1
theorem nmX2 : ∀ a, a < 1 → ∀ b, b < 1 → a ≠ b → (TX2 a).2.1 ≠ (TX2 b).2.1 := by decide +kernel
theorem tyX2_ok : ∀ k, k < 1 → parseFieldDescriptor (TX2 k).2.2.1 = some (tyX2 k) := by decide +kernel
abbrev cX2_init : ByteArray := prog_4_method_1_code
def yX2_init : MethodName := ⟨RX2, "<init>", "()V"⟩
abbrev cX2_countWays : ByteArray := prog_4_method_2_code
def yX2_countWays : MethodName := ⟨RX2, "countWays", "(LLoftGraves$Parish;)I"⟩
abbrev cX2_weigh : ByteArray := prog_4_method_3_code
def yX2_weigh : MethodName := ⟨RX2, "weigh", "(LLoftGraves$Parish;)V"⟩
abbrev cX2_changesWith : ByteArray := prog_4_method_4_code
def yX2_changesWith : MethodName := ⟨RX2, "changesWith", "(LLoftGraves$Parish;II)I"⟩
abbrev cX2_fewestChanges : ByteArray := prog_4_method_5_code
def yX2_fewestChanges : MethodName := ⟨RX2, "fewestChanges", "()I"⟩
abbrev cX2_nameOf : ByteArray := prog_4_method_6_code
def yX2_nameOf : MethodName := ⟨RX2, "nameOf", "(LLoftGraves$Parish;I)I"⟩
def RX3 : String := "LoftGraves$Parish"
def TX3 : u_T := fun k => match k with
  | 0 => ("LoftGraves$Parish", "yards", "I", false)
  | 1 => ("LoftGraves$Parish", "dead", "I", false)
  | 2 => ("LoftGraves$Parish", "sun", "I", false)
  | 3 => ("LoftGraves$Parish", "shade", "I", false)
  | 4 => ("LoftGraves$Parish", "frost", "[I", true)
  | 5 => ("LoftGraves$Parish", "rank", "[I", true)
  | 6 => ("LoftGraves$Parish", "waited", "[I", true)
  | 7 => ("LoftGraves$Parish", "kin", "[I", true)
  | 8 => ("LoftGraves$Parish", "gifts", "[I", true)
  | 9 => ("LoftGraves$Parish", "boards", "[I", true)
  | 10 => ("LoftGraves$Parish", "yardOf", "[I", true)
  | 11 => ("LoftGraves$Parish", "labels", "[I", true)
  | 12 => ("LoftGraves$Parish", "marks", "[I", true)
  | 13 => ("LoftGraves$Parish", "knocked", "I", false)
  | 14 => ("LoftGraves$Parish", "hours", "I", false)
  | _ => ("LoftGraves$Parish", "chance", "I", false)
def tyX3 : Nat → FieldType := fun k => match k with
  | 0 => .int
  | 1 => .int
  | 2 => .int
  | 3 => .int
  | 4 => .array .int
  | 5 => .array .int
  | 6 => .array .int
  | 7 => .array .int
  | 8 => .array .int
  | 9 => .array .int
  | 10 => .array .int
  | 11 => .array .int
  | 12 => .array .int
  | 13 => .int
  | 14 => .int
  | _ => .int
abbrev wsX30 : List Cond := u_ws RX3 TX3 16
theorem nmX3 : ∀ a, a < 16 → ∀ b, b < 16 → a ≠ b → (TX3 a).2.1 ≠ (TX3 b).2.1 := by decide +kernel
theorem tyX3_ok : ∀ k, k < 16 → parseFieldDescriptor (TX3 k).2.2.1 = some (tyX3 k) := by decide +kernel
abbrev cX3_init : ByteArray := prog_5_method_1_code
def yX3_init : MethodName := ⟨RX3, "<init>", "()V"⟩
abbrev cX3_copyFrom : ByteArray := prog_5_method_2_code
def yX3_copyFrom : MethodName := ⟨RX3, "copyFrom", "(LLoftGraves$Parish;)V"⟩
abbrev cX3_readFrom : ByteArray := prog_5_method_3_code
def yX3_readFrom : MethodName := ⟨RX3, "readFrom", "(LLoftGraves$Text;)V"⟩
abbrev cX3_readClause : ByteArray := prog_5_method_4_code
def yX3_readClause : MethodName := ⟨RX3, "readClause", "(LLoftGraves$Text;)V"⟩
abbrev cX3_readSun : ByteArray := prog_5_method_5_code
def yX3_readSun : MethodName := ⟨RX3, "readSun", "(LLoftGraves$Text;I)V"⟩
abbrev cX3_readYard : ByteArray := prog_5_method_6_code
def yX3_readYard : MethodName := ⟨RX3, "readYard", "(LLoftGraves$Text;I)V"⟩
abbrev cX3_readDead : ByteArray := prog_5_method_7_code
def yX3_readDead : MethodName := ⟨RX3, "readDead", "(LLoftGraves$Text;I)V"⟩
abbrev cX3_settle : ByteArray := prog_5_method_8_code
def yX3_settle : MethodName := ⟨RX3, "settle", "()V"⟩
abbrev cX3_hasYard : ByteArray := prog_5_method_9_code
def yX3_hasYard : MethodName := ⟨RX3, "hasYard", "(I)Z"⟩
abbrev cX3_hasDead : ByteArray := prog_5_method_10_code
def yX3_hasDead : MethodName := ⟨RX3, "hasDead", "(I)Z"⟩
abbrev cX3_laid : ByteArray := prog_5_method_11_code
def yX3_laid : MethodName := ⟨RX3, "laid", "()I"⟩
abbrev cX3_waiting : ByteArray := prog_5_method_12_code
def yX3_waiting : MethodName := ⟨RX3, "waiting", "()I"⟩
abbrev cX3_whoLiesIn : ByteArray := prog_5_method_13_code
def yX3_whoLiesIn : MethodName := ⟨RX3, "whoLiesIn", "(I)I"⟩
abbrev cX3_taken : ByteArray := prog_5_method_14_code
def yX3_taken : MethodName := ⟨RX3, "taken", "()I"⟩
abbrev cX3_soft : ByteArray := prog_5_method_15_code
def yX3_soft : MethodName := ⟨RX3, "soft", "()I"⟩
abbrev cX3_softAndFree : ByteArray := prog_5_method_16_code
def yX3_softAndFree : MethodName := ⟨RX3, "softAndFree", "()I"⟩
abbrev cX3_boardless : ByteArray := prog_5_method_17_code
def yX3_boardless : MethodName := ⟨RX3, "boardless", "()I"⟩
abbrev cX3_ranksOf : ByteArray := prog_5_method_18_code
def yX3_ranksOf : MethodName := ⟨RX3, "ranksOf", "(I)I"⟩
abbrev cX3_worth : ByteArray := prog_5_method_19_code
def yX3_worth : MethodName := ⟨RX3, "worth", "(II)I"⟩
abbrev cX3_claim : ByteArray := prog_5_method_20_code
def yX3_claim : MethodName := ⟨RX3, "claim", "(LLoftGraves$Custom;I)J"⟩
abbrev cX3_urgentClaim : ByteArray := prog_5_method_21_code
def yX3_urgentClaim : MethodName := ⟨RX3, "urgentClaim", "(LLoftGraves$Custom;I)J"⟩
abbrev cX3_placeAmong : ByteArray := prog_5_method_22_code
def yX3_placeAmong : MethodName := ⟨RX3, "placeAmong", "(LLoftGraves$Custom;II)I"⟩
abbrev cX3_firstAmong : ByteArray := prog_5_method_23_code
def yX3_firstAmong : MethodName := ⟨RX3, "firstAmong", "(LLoftGraves$Custom;I)I"⟩
abbrev cX3_thawOf : ByteArray := prog_5_method_24_code
def yX3_thawOf : MethodName := ⟨RX3, "thawOf", "(II)I"⟩
abbrev cX3_passDay : ByteArray := prog_5_method_25_code
def yX3_passDay : MethodName := ⟨RX3, "passDay", "(I)V"⟩
abbrev cX3_draw : ByteArray := prog_5_method_26_code
def yX3_draw : MethodName := ⟨RX3, "draw", "(I)I"⟩
abbrev cX3_passNight : ByteArray := prog_5_method_27_code
def yX3_passNight : MethodName := ⟨RX3, "passNight", "(I)V"⟩
abbrev cX3_layDown : ByteArray := prog_5_method_28_code
def yX3_layDown : MethodName := ⟨RX3, "layDown", "(II)I"⟩
abbrev cX3_softBehind : ByteArray := prog_5_method_29_code
def yX3_softBehind : MethodName := ⟨RX3, "softBehind", "(II)I"⟩
abbrev cX3_daysUntilSoft : ByteArray := prog_5_method_30_code
def yX3_daysUntilSoft : MethodName := ⟨RX3, "daysUntilSoft", "(II)I"⟩
def RX4 : String := "LoftGraves$Plan"
def TX4 : u_T := fun k => match k with
  | 0 => ("LoftGraves$Plan", "behind", "[I", true)
  | 1 => ("LoftGraves$Plan", "alike", "[I", true)
  | 2 => ("LoftGraves$Plan", "tried", "[I", true)
  | 3 => ("LoftGraves$Plan", "best", "[I", true)
  | 4 => ("LoftGraves$Plan", "fewest", "I", false)
  | _ => ("LoftGraves$Plan", "found", "Z", false)
def tyX4 : Nat → FieldType := fun k => match k with
  | 0 => .array .int
  | 1 => .array .int
  | 2 => .array .int
  | 3 => .array .int
  | 4 => .int
  | _ => .boolean
abbrev wsX40 : List Cond := u_ws RX4 TX4 6
theorem nmX4 : ∀ a, a < 6 → ∀ b, b < 6 → a ≠ b → (TX4 a).2.1 ≠ (TX4 b).2.1 := by decide +kernel
theorem tyX4_ok : ∀ k, k < 6 → parseFieldDescriptor (TX4 k).2.2.1 = some (tyX4 k) := by decide +kernel
abbrev cX4_init : ByteArray := prog_6_method_1_code
def yX4_init : MethodName := ⟨RX4, "<init>", "()V"⟩
abbrev cX4_begin : ByteArray := prog_6_method_2_code
def yX4_begin : MethodName := ⟨RX4, "begin", "(LLoftGraves$Parish;LLoftGraves$Custom;)V"⟩
abbrev cX4_offends : ByteArray := prog_6_method_3_code
def yX4_offends : MethodName := ⟨RX4, "offends", "(II)Z"⟩
abbrev cX4_whoOffends : ByteArray := prog_6_method_4_code
def yX4_whoOffends : MethodName := ⟨RX4, "whoOffends", "(I)I"⟩
abbrev cX4_quarrelsOf : ByteArray := prog_6_method_5_code
def yX4_quarrelsOf : MethodName := ⟨RX4, "quarrelsOf", "(II)I"⟩
abbrev cX4_quarrelsAmong : ByteArray := prog_6_method_6_code
def yX4_quarrelsAmong : MethodName := ⟨RX4, "quarrelsAmong", "(II)I"⟩
abbrev cX4_quarrelsNow : ByteArray := prog_6_method_7_code
def yX4_quarrelsNow : MethodName := ⟨RX4, "quarrelsNow", "()I"⟩
abbrev cX4_find : ByteArray := prog_6_method_8_code
def yX4_find : MethodName := ⟨RX4, "find", "(II)V"⟩
abbrev cX4_search : ByteArray := prog_6_method_9_code
def yX4_search : MethodName := ⟨RX4, "search", "(LLoftGraves$Plan;IIII)V"⟩
def RX5 : String := "LoftGraves$Text"
def TX5 : u_T := fun k => match k with
  | 0 => ("LoftGraves$Text", "bytes", "[B", true)
  | 1 => ("LoftGraves$Text", "length", "I", false)
  | 2 => ("LoftGraves$Text", "place", "I", false)
  | 3 => ("LoftGraves$Text", "flaw", "I", false)
  | _ => ("LoftGraves$Text", "flawPlace", "I", false)
def tyX5 : Nat → FieldType := fun k => match k with
  | 0 => .array .byte
  | 1 => .int
  | 2 => .int
  | 3 => .int
  | _ => .int
abbrev wsX50 : List Cond := u_ws RX5 TX5 5
theorem nmX5 : ∀ a, a < 5 → ∀ b, b < 5 → a ≠ b → (TX5 a).2.1 ≠ (TX5 b).2.1 := by decide +kernel
theorem tyX5_ok : ∀ k, k < 5 → parseFieldDescriptor (TX5 k).2.2.1 = some (tyX5 k) := by decide +kernel
abbrev cX5_init : ByteArray := prog_7_method_1_code
def yX5_init : MethodName := ⟨RX5, "<init>", "()V"⟩
abbrev cX5_append : ByteArray := prog_7_method_2_code
def yX5_append : MethodName := ⟨RX5, "append", "(I)V"⟩
abbrev cX5_begin : ByteArray := prog_7_method_3_code
def yX5_begin : MethodName := ⟨RX5, "begin", "()V"⟩
abbrev cX5_blame : ByteArray := prog_7_method_4_code
def yX5_blame : MethodName := ⟨RX5, "blame", "(II)V"⟩
abbrev cX5_byteAt : ByteArray := prog_7_method_5_code
def yX5_byteAt : MethodName := ⟨RX5, "byteAt", "(I)I"⟩
abbrev cX5_skipBlanks : ByteArray := prog_7_method_6_code
def yX5_skipBlanks : MethodName := ⟨RX5, "skipBlanks", "()V"⟩
abbrev cX5_goesOn : ByteArray := prog_7_method_7_code
def yX5_goesOn : MethodName := ⟨RX5, "goesOn", "()Z"⟩
abbrev cX5_takeWord : ByteArray := prog_7_method_8_code
def yX5_takeWord : MethodName := ⟨RX5, "takeWord", "(Ljava/lang/String;)Z"⟩
abbrev cX5_takeNumber : ByteArray := prog_7_method_9_code
def yX5_takeNumber : MethodName := ⟨RX5, "takeNumber", "(II)I"⟩
abbrev cX5_takeStop : ByteArray := prog_7_method_10_code
def yX5_takeStop : MethodName := ⟨RX5, "takeStop", "()V"⟩
def RX6 : String := "LoftGraves"
def TX6 : u_T := fun k => match k with
  | 0 => ("LoftGraves", "text", "LLoftGraves$Text;", true)
  | 1 => ("LoftGraves", "rules", "LLoftGraves$Custom;", true)
  | 2 => ("LoftGraves", "rulesDraft", "LLoftGraves$Custom;", true)
  | 3 => ("LoftGraves", "now", "LLoftGraves$Parish;", true)
  | 4 => ("LoftGraves", "draft", "LLoftGraves$Parish;", true)
  | 5 => ("LoftGraves", "firstImage", "LLoftGraves$Parish;", true)
  | 6 => ("LoftGraves", "secondImage", "LLoftGraves$Parish;", true)
  | 7 => ("LoftGraves", "firstKept", "Z", false)
  | 8 => ("LoftGraves", "secondKept", "Z", false)
  | 9 => ("LoftGraves", "book", "LLoftGraves$Book;", true)
  | 10 => ("LoftGraves", "plan", "LLoftGraves$Plan;", true)
  | _ => ("LoftGraves", "naming", "LLoftGraves$Naming;", true)
def tyX6 : Nat → FieldType := fun k => match k with
  | 0 => .object "LoftGraves$Text"
  | 1 => .object "LoftGraves$Custom"
  | 2 => .object "LoftGraves$Custom"
  | 3 => .object "LoftGraves$Parish"
  | 4 => .object "LoftGraves$Parish"
  | 5 => .object "LoftGraves$Parish"
  | 6 => .object "LoftGraves$Parish"
  | 7 => .boolean
  | 8 => .boolean
  | 9 => .object "LoftGraves$Book"
  | 10 => .object "LoftGraves$Plan"
  | _ => .object "LoftGraves$Naming"
abbrev wsX60 : List Cond := u_ws RX6 TX6 12
theorem nmX6 : ∀ a, a < 12 → ∀ b, b < 12 → a ≠ b → (TX6 a).2.1 ≠ (TX6 b).2.1 := by decide +kernel
theorem tyX6_ok : ∀ k, k < 12 → parseFieldDescriptor (TX6 k).2.2.1 = some (tyX6 k) := by decide +kernel
abbrev cX6_init : ByteArray := prog_1_method_1_code
def yX6_init : MethodName := ⟨RX6, "<init>", "()V"⟩
abbrev cX6_feed : ByteArray := prog_1_method_2_code
def yX6_feed : MethodName := ⟨RX6, "feed", "(IJ)I"⟩
abbrev cX6_parish : ByteArray := prog_1_method_3_code
def yX6_parish : MethodName := ⟨RX6, "parish", "()I"⟩
abbrev cX6_custom : ByteArray := prog_1_method_4_code
def yX6_custom : MethodName := ⟨RX6, "custom", "()I"⟩
abbrev cX6_fault : ByteArray := prog_1_method_5_code
def yX6_fault : MethodName := ⟨RX6, "fault", "()I"⟩
abbrev cX6_told : ByteArray := prog_1_method_6_code
def yX6_told : MethodName := ⟨RX6, "told", "(I)I"⟩
abbrev cX6_yard : ByteArray := prog_1_method_7_code
def yX6_yard : MethodName := ⟨RX6, "yard", "(II)I"⟩
abbrev cX6_dead : ByteArray := prog_1_method_8_code
def yX6_dead : MethodName := ⟨RX6, "dead", "(II)I"⟩
abbrev cX6_order : ByteArray := prog_1_method_9_code
def yX6_order : MethodName := ⟨RX6, "order", "(I)I"⟩
abbrev cX6_letter : ByteArray := prog_1_method_10_code
def yX6_letter : MethodName := ⟨RX6, "letter", "(II)I"⟩
abbrev cX6_gift : ByteArray := prog_1_method_11_code
def yX6_gift : MethodName := ⟨RX6, "gift", "(II)I"⟩
abbrev cX6_knock : ByteArray := prog_1_method_12_code
def yX6_knock : MethodName := ⟨RX6, "knock", "(I)I"⟩
abbrev cX6_day : ByteArray := prog_1_method_13_code
def yX6_day : MethodName := ⟨RX6, "day", "(I)I"⟩
abbrev cX6_rats : ByteArray := prog_1_method_14_code
def yX6_rats : MethodName := ⟨RX6, "rats", "(II)I"⟩
abbrev cX6_lay : ByteArray := prog_1_method_15_code
def yX6_lay : MethodName := ⟨RX6, "lay", "(II)I"⟩
abbrev cX6_spring : ByteArray := prog_1_method_16_code
def yX6_spring : MethodName := ⟨RX6, "spring", "(II)I"⟩
abbrev cX6_useSpades : ByteArray := prog_1_method_17_code
def yX6_useSpades : MethodName := ⟨RX6, "useSpades", "(I)V"⟩
abbrev cX6_offended : ByteArray := prog_1_method_18_code
def yX6_offended : MethodName := ⟨RX6, "offended", "(I)I"⟩
abbrev cX6_quarrels : ByteArray := prog_1_method_19_code
def yX6_quarrels : MethodName := ⟨RX6, "quarrels", "()I"⟩
abbrev cX6_laying : ByteArray := prog_1_method_20_code
def yX6_laying : MethodName := ⟨RX6, "laying", "(I)I"⟩
abbrev cX6_when : ByteArray := prog_1_method_21_code
def yX6_when : MethodName := ⟨RX6, "when", "(II)I"⟩
abbrev cX6_span : ByteArray := prog_1_method_22_code
def yX6_span : MethodName := ⟨RX6, "span", "(IIII)I"⟩
abbrev cX6_bribe : ByteArray := prog_1_method_23_code
def yX6_bribe : MethodName := ⟨RX6, "bribe", "(II)I"⟩
abbrev cX6_leastBribe : ByteArray := prog_1_method_24_code
def yX6_leastBribe : MethodName := ⟨RX6, "leastBribe", "(II)I"⟩
abbrev cX6_label : ByteArray := prog_1_method_25_code
def yX6_label : MethodName := ⟨RX6, "label", "(II)I"⟩
abbrev cX6_mark : ByteArray := prog_1_method_26_code
def yX6_mark : MethodName := ⟨RX6, "mark", "(II)I"⟩
abbrev cX6_fits : ByteArray := prog_1_method_27_code
def yX6_fits : MethodName := ⟨RX6, "fits", "()I"⟩
abbrev cX6_mixed : ByteArray := prog_1_method_28_code
def yX6_mixed : MethodName := ⟨RX6, "mixed", "(I)I"⟩
abbrev cX6_churches : ByteArray := prog_1_method_29_code
def yX6_churches : MethodName := ⟨RX6, "churches", "(I)I"⟩
abbrev cX6_write : ByteArray := prog_1_method_30_code
def yX6_write : MethodName := ⟨RX6, "write", "(II)I"⟩
abbrev cX6_tear : ByteArray := prog_1_method_31_code
def yX6_tear : MethodName := ⟨RX6, "tear", "()I"⟩
abbrev cX6_judge : ByteArray := prog_1_method_32_code
def yX6_judge : MethodName := ⟨RX6, "judge", "()I"⟩
abbrev cX6_seed : ByteArray := prog_1_method_33_code
def yX6_seed : MethodName := ⟨RX6, "seed", "(I)I"⟩
abbrev cX6_keep : ByteArray := prog_1_method_34_code
def yX6_keep : MethodName := ⟨RX6, "keep", "(I)I"⟩
abbrev cX6_goBack : ByteArray := prog_1_method_35_code
def yX6_goBack : MethodName := ⟨RX6, "goBack", "(I)I"⟩
abbrev cX6_at : ByteArray := prog_1_method_36_code
def yX6_at : MethodName := ⟨RX6, "at", "([II)I"⟩
abbrev cX6_put : ByteArray := prog_1_method_37_code
def yX6_put : MethodName := ⟨RX6, "put", "([III)V"⟩
abbrev cX6_copyRow : ByteArray := prog_1_method_38_code
def yX6_copyRow : MethodName := ⟨RX6, "copyRow", "([I[I)V"⟩
abbrev cX6_bit : ByteArray := prog_1_method_39_code
def yX6_bit : MethodName := ⟨RX6, "bit", "(I)I"⟩
abbrev cX6_has : ByteArray := prog_1_method_40_code
def yX6_has : MethodName := ⟨RX6, "has", "(II)Z"⟩
abbrev cX6_allBelow : ByteArray := prog_1_method_41_code
def yX6_allBelow : MethodName := ⟨RX6, "allBelow", "(I)I"⟩
def RX7 : String := "LoftGravesModel"
def TX7 : u_T := fun k => match k with
  | 0 => ("LoftGravesModel", "w", "[I", true)
  | 1 => ("LoftGravesModel", "isKept", "[Z", true)
  | 2 => ("LoftGravesModel", "thaws", "I", false)
  | 3 => ("LoftGravesModel", "shade", "I", false)
  | 4 => ("LoftGravesModel", "frosts", "[I", true)
  | 5 => ("LoftGravesModel", "ranks", "[I", true)
  | 6 => ("LoftGravesModel", "waits", "[I", true)
  | 7 => ("LoftGravesModel", "kins", "[I", true)
  | 8 => ("LoftGravesModel", "many", "[I", true)
  | 9 => ("LoftGravesModel", "clauses", "[I", true)
  | 10 => ("LoftGravesModel", "clauseMany", "I", false)
  | 11 => ("LoftGravesModel", "text", "[I", true)
  | 12 => ("LoftGravesModel", "textSize", "I", false)
  | 13 => ("LoftGravesModel", "at", "I", false)
  | 14 => ("LoftGravesModel", "first", "I", false)
  | 15 => ("LoftGravesModel", "length", "I", false)
  | 16 => ("LoftGravesModel", "faultOf", "I", false)
  | 17 => ("LoftGravesModel", "fault", "I", false)
  | 18 => ("LoftGravesModel", "isSun", "Z", false)
  | 19 => ("LoftGravesModel", "newThaws", "I", false)
  | 20 => ("LoftGravesModel", "newShade", "I", false)
  | 21 => ("LoftGravesModel", "newClauses", "[I", true)
  | 22 => ("LoftGravesModel", "those", "[I", true)
  | 23 => ("LoftGravesModel", "chosen", "[I", true)
  | 24 => ("LoftGravesModel", "bestChosen", "[I", true)
  | 25 => ("LoftGravesModel", "bestMany", "I", false)
  | 26 => ("LoftGravesModel", "ways", "[I", true)
  | 27 => ("LoftGravesModel", "others", "[I", true)
  | 28 => ("LoftGravesModel", "bookDead", "[I", true)
  | 29 => ("LoftGravesModel", "bookYard", "[I", true)
  | _ => ("LoftGravesModel", "written", "I", false)
def tyX7 : Nat → FieldType := fun k => match k with
  | 0 => .array .int
  | 1 => .array .boolean
  | 2 => .int
  | 3 => .int
  | 4 => .array .int
  | 5 => .array .int
  | 6 => .array .int
  | 7 => .array .int
  | 8 => .array .int
  | 9 => .array .int
  | 10 => .int
  | 11 => .array .int
  | 12 => .int
  | 13 => .int
  | 14 => .int
  | 15 => .int
  | 16 => .int
  | 17 => .int
  | 18 => .boolean
  | 19 => .int
  | 20 => .int
  | 21 => .array .int
  | 22 => .array .int
  | 23 => .array .int
  | 24 => .array .int
  | 25 => .int
  | 26 => .array .int
  | 27 => .array .int
  | 28 => .array .int
  | 29 => .array .int
  | _ => .int
abbrev wsX70 : List Cond := u_ws RX7 TX7 31
theorem nmX7 : ∀ a, a < 31 → ∀ b, b < 31 → a ≠ b → (TX7 a).2.1 ≠ (TX7 b).2.1 := by decide +kernel
theorem tyX7_ok : ∀ k, k < 31 → parseFieldDescriptor (TX7 k).2.2.1 = some (tyX7 k) := by decide +kernel
abbrev cX7_init : ByteArray := prog_9_method_1_code
def yX7_init : MethodName := ⟨RX7, "<init>", "()V"⟩
abbrev cX7_in : ByteArray := prog_9_method_3_code
def yX7_in : MethodName := ⟨RX7, "in", "(JJJ)Z"⟩
abbrev cX7_one : ByteArray := prog_9_method_4_code
def yX7_one : MethodName := ⟨RX7, "one", "(Z)I"⟩
abbrev cX7_has : ByteArray := prog_9_method_5_code
def yX7_has : MethodName := ⟨RX7, "has", "(II)Z"⟩
abbrev cX7_ones : ByteArray := prog_9_method_6_code
def yX7_ones : MethodName := ⟨RX7, "ones", "(I)I"⟩
abbrev cX7_size : ByteArray := prog_9_method_7_code
def yX7_size : MethodName := ⟨RX7, "size", "(I)I"⟩
abbrev cX7_feed : ByteArray := prog_9_method_8_code
def yX7_feed : MethodName := ⟨RX7, "feed", "(IJ)I"⟩
abbrev cX7_here : ByteArray := prog_9_method_9_code
def yX7_here : MethodName := ⟨RX7, "here", "()I"⟩
abbrev cX7_want : ByteArray := prog_9_method_10_code
def yX7_want : MethodName := ⟨RX7, "want", "(ZII)Z"⟩
abbrev cX7_takeWord : ByteArray := prog_9_method_11_code
def yX7_takeWord : MethodName := ⟨RX7, "takeWord", "()V"⟩
abbrev cX7_isWord : ByteArray := prog_9_method_12_code
def yX7_isWord : MethodName := ⟨RX7, "isWord", "(IIIIII)Z"⟩
abbrev cX7_takeNumber : ByteArray := prog_9_method_13_code
def yX7_takeNumber : MethodName := ⟨RX7, "takeNumber", "(II)I"⟩
abbrev cX7_takeEnd : ByteArray := prog_9_method_14_code
def yX7_takeEnd : MethodName := ⟨RX7, "takeEnd", "()V"⟩
abbrev cX7_takeClause : ByteArray := prog_9_method_15_code
def yX7_takeClause : MethodName := ⟨RX7, "takeClause", "()V"⟩
abbrev cX7_start : ByteArray := prog_9_method_16_code
def yX7_start : MethodName := ⟨RX7, "start", "()V"⟩
abbrev cX7_parish : ByteArray := prog_9_method_17_code
def yX7_parish : MethodName := ⟨RX7, "parish", "()I"⟩
abbrev cX7_custom : ByteArray := prog_9_method_18_code
def yX7_custom : MethodName := ⟨RX7, "custom", "()I"⟩
abbrev cX7_fault : ByteArray := prog_9_method_19_code
def yX7_fault : MethodName := ⟨RX7, "fault", "()I"⟩
abbrev cX7_isYard : ByteArray := prog_9_method_20_code
def yX7_isYard : MethodName := ⟨RX7, "isYard", "(I)Z"⟩
abbrev cX7_isDead : ByteArray := prog_9_method_21_code
def yX7_isDead : MethodName := ⟨RX7, "isDead", "(I)Z"⟩
abbrev cX7_isInLoft : ByteArray := prog_9_method_22_code
def yX7_isInLoft : MethodName := ⟨RX7, "isInLoft", "(II)Z"⟩
abbrev cX7_loft : ByteArray := prog_9_method_23_code
def yX7_loft : MethodName := ⟨RX7, "loft", "(I)I"⟩
abbrev cX7_laid : ByteArray := prog_9_method_24_code
def yX7_laid : MethodName := ⟨RX7, "laid", "(I)I"⟩
abbrev cX7_who : ByteArray := prog_9_method_25_code
def yX7_who : MethodName := ⟨RX7, "who", "(II)I"⟩
abbrev cX7_valueBy : ByteArray := prog_9_method_26_code
def yX7_valueBy : MethodName := ⟨RX7, "valueBy", "(III)I"⟩
abbrev cX7_isAheadByCustom : ByteArray := prog_9_method_27_code
def yX7_isAheadByCustom : MethodName := ⟨RX7, "isAheadByCustom", "(III)Z"⟩
abbrev cX7_isAhead : ByteArray := prog_9_method_28_code
def yX7_isAhead : MethodName := ⟨RX7, "isAhead", "(III)Z"⟩
abbrev cX7_placeOf : ByteArray := prog_9_method_29_code
def yX7_placeOf : MethodName := ⟨RX7, "placeOf", "(II)I"⟩
abbrev cX7_inOrder : ByteArray := prog_9_method_30_code
def yX7_inOrder : MethodName := ⟨RX7, "inOrder", "(II)I"⟩
abbrev cX7_told : ByteArray := prog_9_method_31_code
def yX7_told : MethodName := ⟨RX7, "told", "(I)I"⟩
abbrev cX7_yard : ByteArray := prog_9_method_32_code
def yX7_yard : MethodName := ⟨RX7, "yard", "(II)I"⟩
abbrev cX7_dead : ByteArray := prog_9_method_33_code
def yX7_dead : MethodName := ⟨RX7, "dead", "(II)I"⟩
abbrev cX7_order : ByteArray := prog_9_method_34_code
def yX7_order : MethodName := ⟨RX7, "order", "(I)I"⟩
abbrev cX7_letter : ByteArray := prog_9_method_35_code
def yX7_letter : MethodName := ⟨RX7, "letter", "(II)I"⟩
abbrev cX7_gift : ByteArray := prog_9_method_36_code
def yX7_gift : MethodName := ⟨RX7, "gift", "(II)I"⟩
abbrev cX7_knock : ByteArray := prog_9_method_37_code
def yX7_knock : MethodName := ⟨RX7, "knock", "(I)I"⟩
abbrev cX7_rate : ByteArray := prog_9_method_38_code
def yX7_rate : MethodName := ⟨RX7, "rate", "(II)I"⟩
abbrev cX7_pass : ByteArray := prog_9_method_39_code
def yX7_pass : MethodName := ⟨RX7, "pass", "(I)V"⟩
abbrev cX7_softYards : ByteArray := prog_9_method_40_code
def yX7_softYards : MethodName := ⟨RX7, "softYards", "()I"⟩
abbrev cX7_day : ByteArray := prog_9_method_41_code
def yX7_day : MethodName := ⟨RX7, "day", "(I)I"⟩
abbrev cX7_draw : ByteArray := prog_9_method_42_code
def yX7_draw : MethodName := ⟨RX7, "draw", "(I)I"⟩
abbrev cX7_gnaw : ByteArray := prog_9_method_43_code
def yX7_gnaw : MethodName := ⟨RX7, "gnaw", "(I)V"⟩
abbrev cX7_rats : ByteArray := prog_9_method_44_code
def yX7_rats : MethodName := ⟨RX7, "rats", "(II)I"⟩
abbrev cX7_layIn : ByteArray := prog_9_method_45_code
def yX7_layIn : MethodName := ⟨RX7, "layIn", "(III)I"⟩
abbrev cX7_lay : ByteArray := prog_9_method_46_code
def yX7_lay : MethodName := ⟨RX7, "lay", "(II)I"⟩
abbrev cX7_leastSoft : ByteArray := prog_9_method_47_code
def yX7_leastSoft : MethodName := ⟨RX7, "leastSoft", "()I"⟩
abbrev cX7_spring : ByteArray := prog_9_method_48_code
def yX7_spring : MethodName := ⟨RX7, "spring", "(II)I"⟩
abbrev cX7_offends : ByteArray := prog_9_method_49_code
def yX7_offends : MethodName := ⟨RX7, "offends", "(III)Z"⟩
abbrev cX7_offended : ByteArray := prog_9_method_50_code
def yX7_offended : MethodName := ⟨RX7, "offended", "(I)I"⟩
abbrev cX7_quarrelsIn : ByteArray := prog_9_method_51_code
def yX7_quarrelsIn : MethodName := ⟨RX7, "quarrelsIn", "(I)I"⟩
abbrev cX7_quarrels : ByteArray := prog_9_method_52_code
def yX7_quarrels : MethodName := ⟨RX7, "quarrels", "()I"⟩
abbrev cX7_copy : ByteArray := prog_9_method_53_code
def yX7_copy : MethodName := ⟨RX7, "copy", "(II)V"⟩
abbrev cX7_isFree : ByteArray := prog_9_method_54_code
def yX7_isFree : MethodName := ⟨RX7, "isFree", "(I)Z"⟩
abbrev cX7_goOn : ByteArray := prog_9_method_55_code
def yX7_goOn : MethodName := ⟨RX7, "goOn", "(I)Z"⟩
abbrev cX7_isUnlike : ByteArray := prog_9_method_56_code
def yX7_isUnlike : MethodName := ⟨RX7, "isUnlike", "(I)Z"⟩
abbrev cX7_fill : ByteArray := prog_9_method_57_code
def yX7_fill : MethodName := ⟨RX7, "fill", "(II)Z"⟩
abbrev cX7_findLaying : ByteArray := prog_9_method_58_code
def yX7_findLaying : MethodName := ⟨RX7, "findLaying", "()Z"⟩
abbrev cX7_laying : ByteArray := prog_9_method_59_code
def yX7_laying : MethodName := ⟨RX7, "laying", "(I)I"⟩
abbrev cX7_daysTill : ByteArray := prog_9_method_60_code
def yX7_daysTill : MethodName := ⟨RX7, "daysTill", "(II)I"⟩
abbrev cX7_whenSoft : ByteArray := prog_9_method_61_code
def yX7_whenSoft : MethodName := ⟨RX7, "whenSoft", "(II)I"⟩
abbrev cX7_when : ByteArray := prog_9_method_62_code
def yX7_when : MethodName := ⟨RX7, "when", "(II)I"⟩
abbrev cX7_span : ByteArray := prog_9_method_63_code
def yX7_span : MethodName := ⟨RX7, "span", "(IIII)I"⟩
abbrev cX7_bribe : ByteArray := prog_9_method_64_code
def yX7_bribe : MethodName := ⟨RX7, "bribe", "(II)I"⟩
abbrev cX7_label : ByteArray := prog_9_method_65_code
def yX7_label : MethodName := ⟨RX7, "label", "(II)I"⟩
abbrev cX7_mark : ByteArray := prog_9_method_66_code
def yX7_mark : MethodName := ⟨RX7, "mark", "(II)I"⟩
abbrev cX7_ahead : ByteArray := prog_9_method_67_code
def yX7_ahead : MethodName := ⟨RX7, "ahead", "(I)I"⟩
abbrev cX7_findNames : ByteArray := prog_9_method_68_code
def yX7_findNames : MethodName := ⟨RX7, "findNames", "()V"⟩
abbrev cX7_fits : ByteArray := prog_9_method_69_code
def yX7_fits : MethodName := ⟨RX7, "fits", "()I"⟩
abbrev cX7_mixed : ByteArray := prog_9_method_70_code
def yX7_mixed : MethodName := ⟨RX7, "mixed", "(I)I"⟩
abbrev cX7_churches : ByteArray := prog_9_method_71_code
def yX7_churches : MethodName := ⟨RX7, "churches", "(I)I"⟩
abbrev cX7_write : ByteArray := prog_9_method_72_code
def yX7_write : MethodName := ⟨RX7, "write", "(II)I"⟩
abbrev cX7_tear : ByteArray := prog_9_method_73_code
def yX7_tear : MethodName := ⟨RX7, "tear", "()I"⟩
abbrev cX7_judge : ByteArray := prog_9_method_74_code
def yX7_judge : MethodName := ⟨RX7, "judge", "()I"⟩
abbrev cX7_seed : ByteArray := prog_9_method_75_code
def yX7_seed : MethodName := ⟨RX7, "seed", "(I)I"⟩
abbrev cX7_keep : ByteArray := prog_9_method_76_code
def yX7_keep : MethodName := ⟨RX7, "keep", "(I)I"⟩
abbrev cX7_goBack : ByteArray := prog_9_method_77_code
def yX7_goBack : MethodName := ⟨RX7, "goBack", "(I)I"⟩
def RJ6 : String := "java/lang/Integer"
def TJ6 : u_T := fun k => match k with
  | _ => ("", "", "", false)
def tyJ6 : Nat → FieldType := fun k => match k with
  | _ => .int
abbrev wsJ60 : List Cond := u_ws RJ6 TJ6 0
theorem nmJ6 : ∀ a, a < 0 → ∀ b, b < 0 → a ≠ b → (TJ6 a).2.1 ≠ (TJ6 b).2.1 := by decide +kernel
theorem tyJ6_ok : ∀ k, k < 0 → parseFieldDescriptor (TJ6 k).2.2.1 = some (tyJ6 k) := by decide +kernel
abbrev cJ6_numberOfTrailingZeros_0f7a4 : ByteArray := prog_10_method_48_code
def yJ6_numberOfTrailingZeros_0f7a4 : MethodName := ⟨RJ6, "numberOfTrailingZeros", "(I)I"⟩
abbrev cJ6_bitCount_0f7a4 : ByteArray := prog_10_method_49_code
def yJ6_bitCount_0f7a4 : MethodName := ⟨RJ6, "bitCount", "(I)I"⟩
def RJ9 : String := "java/lang/Math"
def TJ9 : u_T := fun k => match k with
  | _ => ("", "", "", false)
def tyJ9 : Nat → FieldType := fun k => match k with
  | _ => .int
abbrev wsJ90 : List Cond := u_ws RJ9 TJ9 0
theorem nmJ9 : ∀ a, a < 0 → ∀ b, b < 0 → a ≠ b → (TJ9 a).2.1 ≠ (TJ9 b).2.1 := by decide +kernel
theorem tyJ9_ok : ∀ k, k < 0 → parseFieldDescriptor (TJ9 k).2.2.1 = some (tyJ9 k) := by decide +kernel
abbrev cJ9_abs_0f7a4 : ByteArray := prog_11_method_59_code
def yJ9_abs_0f7a4 : MethodName := ⟨RJ9, "abs", "(I)I"⟩
abbrev cJ9_max_7cf53 : ByteArray := prog_11_method_65_code
def yJ9_max_7cf53 : MethodName := ⟨RJ9, "max", "(II)I"⟩
abbrev cJ9_min_7cf53 : ByteArray := prog_11_method_69_code
def yJ9_min_7cf53 : MethodName := ⟨RJ9, "min", "(II)I"⟩
def RJ0 : String := "java/lang/String"
def TJ0 : u_T := fun k => match k with
  | _ => ("", "", "", false)
def tyJ0 : Nat → FieldType := fun k => match k with
  | _ => .int
abbrev wsJ00 : List Cond := u_ws RJ0 TJ0 0
theorem nmJ0 : ∀ a, a < 0 → ∀ b, b < 0 → a ≠ b → (TJ0 a).2.1 ≠ (TJ0 b).2.1 := by decide +kernel
theorem tyJ0_ok : ∀ k, k < 0 → parseFieldDescriptor (TJ0 k).2.2.1 = some (tyJ0 k) := by decide +kernel
abbrev cJ0_length_8abf5 : ByteArray := prog_12_method_54_code
def yJ0_length_8abf5 : MethodName := ⟨RJ0, "length", "()I"⟩
abbrev cJ0_charAt_5068e : ByteArray := prog_12_method_56_code
def yJ0_charAt_5068e : MethodName := ⟨RJ0, "charAt", "(I)C"⟩
abbrev cJ0_coder_7d493 : ByteArray := prog_12_method_152_code
def yJ0_coder_7d493 : MethodName := ⟨RJ0, "coder", "()B"⟩
abbrev cJ0_isLatin1_aae02 : ByteArray := prog_12_method_154_code
def yJ0_isLatin1_aae02 : MethodName := ⟨RJ0, "isLatin1", "()Z"⟩
abbrev cJ0_checkIndex_df160 : ByteArray := prog_12_method_155_code
def yJ0_checkIndex_df160 : MethodName := ⟨RJ0, "checkIndex", "(II)V"⟩
def RJ1 : String := "java/lang/StringLatin1"
def TJ1 : u_T := fun k => match k with
  | _ => ("", "", "", false)
def tyJ1 : Nat → FieldType := fun k => match k with
  | _ => .int
abbrev wsJ10 : List Cond := u_ws RJ1 TJ1 0
theorem nmJ1 : ∀ a, a < 0 → ∀ b, b < 0 → a ≠ b → (TJ1 a).2.1 ≠ (TJ1 b).2.1 := by decide +kernel
theorem tyJ1_ok : ∀ k, k < 0 → parseFieldDescriptor (TJ1 k).2.2.1 = some (tyJ1 k) := by decide +kernel
abbrev cJ1_charAt_3b067 : ByteArray := prog_13_method_2_code
def yJ1_charAt_3b067 : MethodName := ⟨RJ1, "charAt", "([BI)C"⟩
def RJ2 : String := "java/lang/StringUTF16"
def TJ2 : u_T := fun k => match k with
  | _ => ("", "", "", false)
def tyJ2 : Nat → FieldType := fun k => match k with
  | _ => .int
abbrev wsJ20 : List Cond := u_ws RJ2 TJ2 0
theorem nmJ2 : ∀ a, a < 0 → ∀ b, b < 0 → a ≠ b → (TJ2 a).2.1 ≠ (TJ2 b).2.1 := by decide +kernel
theorem tyJ2_ok : ∀ k, k < 0 → parseFieldDescriptor (TJ2 k).2.2.1 = some (tyJ2 k) := by decide +kernel
abbrev cJ2_getChar_3b067 : ByteArray := prog_14_method_5_code
def yJ2_getChar_3b067 : MethodName := ⟨RJ2, "getChar", "([BI)C"⟩
abbrev cJ2_length_9d52b : ByteArray := prog_14_method_6_code
def yJ2_length_9d52b : MethodName := ⟨RJ2, "length", "([B)I"⟩
abbrev cJ2_charAt_3b067 : ByteArray := prog_14_method_83_code
def yJ2_charAt_3b067 : MethodName := ⟨RJ2, "charAt", "([BI)C"⟩
abbrev cJ2_checkIndex_2214a : ByteArray := prog_14_method_91_code
def yJ2_checkIndex_2214a : MethodName := ⟨RJ2, "checkIndex", "(I[B)V"⟩
def RJ3 : String := "jdk/internal/util/Preconditions"
def TJ3 : u_T := fun k => match k with
  | _ => ("", "", "", false)
def tyJ3 : Nat → FieldType := fun k => match k with
  | _ => .int
abbrev wsJ30 : List Cond := u_ws RJ3 TJ3 0
theorem nmJ3 : ∀ a, a < 0 → ∀ b, b < 0 → a ≠ b → (TJ3 a).2.1 ≠ (TJ3 b).2.1 := by decide +kernel
theorem tyJ3_ok : ∀ k, k < 0 → parseFieldDescriptor (TJ3 k).2.2.1 = some (tyJ3 k) := by decide +kernel
abbrev cJ3_checkIndex_8e157 : ByteArray := prog_15_method_11_code
def yJ3_checkIndex_8e157 : MethodName := ⟨RJ3, "checkIndex", "(IILjava/util/function/BiFunction;)I"⟩
def RL : String := "LoftGravesLaw"
abbrev cL_law : ByteArray := code
def yL_law : MethodName := ⟨RL, "law", "([I)Z"⟩
abbrev vwCl : List vw_C := [(RX0, TX0, 3), (RX1, TX1, 2), (RX2, TX2, 1), (RX3, TX3, 16), (RX4, TX4, 6), (RX5, TX5, 5), (RX6, TX6, 12), (RX7, TX7, 31)]
/-! links between nest mates, out of the tables -/
theorem zmem_of {big ws : List Cond} (ps : List Nat) (h : ws = ps.filterMap (fun i => big[i]?)) : ∀ w ∈ ws, w ∈ big := by
  intro w hw
  rw [h] at hw
  obtain ⟨i, -, hi⟩ := List.mem_filterMap.mp hw
  exact List.mem_of_getElem? hi
def zNW_1 : List Cond := [Cond.methodLinkNest RX6 9 yX5_init "LoftGraves", Cond.fieldLinkNest RX6 78 "LoftGraves$Text" "length" "I" "LoftGraves", Cond.fieldLinkNest RX3 78 "LoftGraves$Text" "place" "I" "LoftGraves", Cond.fieldLinkNest RX1 44 "LoftGraves$Text" "place" "I" "LoftGraves", Cond.fieldLinkNest RX6 90 "LoftGraves$Text" "flaw" "I" "LoftGraves", Cond.fieldLinkNest RX6 111 "LoftGraves$Text" "flawPlace" "I" "LoftGraves", Cond.methodLinkNest RX6 18 yX1_init "LoftGraves", Cond.fieldLinkNest RX3 149 "LoftGraves$Custom" "clauses" "[I" "LoftGraves", Cond.fieldLinkNest RX6 110 "LoftGraves$Custom" "count" "I" "LoftGraves", Cond.fieldLinkNest RX3 142 "LoftGraves$Custom" "count" "I" "LoftGraves", Cond.methodLinkNest RX6 28 yX3_init "LoftGraves", Cond.fieldLinkNest RX6 114 "LoftGraves$Parish" "yards" "I" "LoftGraves", Cond.fieldLinkNest RX2 15 "LoftGraves$Parish" "dead" "I" "LoftGraves", Cond.fieldLinkNest RX6 103 "LoftGraves$Parish" "dead" "I" "LoftGraves", Cond.fieldLinkNest RX6 117 "LoftGraves$Parish" "sun" "I" "LoftGraves", Cond.fieldLinkNest RX6 120 "LoftGraves$Parish" "shade" "I" "LoftGraves", Cond.fieldLinkNest RX6 138 "LoftGraves$Parish" "frost" "[I" "LoftGraves", Cond.fieldLinkNest RX6 153 "LoftGraves$Parish" "rank" "[I" "LoftGraves", Cond.fieldLinkNest RX6 156 "LoftGraves$Parish" "waited" "[I" "LoftGraves", Cond.fieldLinkNest RX4 57 "LoftGraves$Parish" "kin" "[I" "LoftGraves", Cond.fieldLinkNest RX6 159 "LoftGraves$Parish" "kin" "[I" "LoftGraves", Cond.fieldLinkNest RX6 162 "LoftGraves$Parish" "gifts" "[I" "LoftGraves", Cond.fieldLinkNest RX6 165 "LoftGraves$Parish" "boards" "[I" "LoftGraves", Cond.fieldLinkNest RX4 42 "LoftGraves$Parish" "yardOf" "[I" "LoftGraves", Cond.fieldLinkNest RX6 168 "LoftGraves$Parish" "yardOf" "[I" "LoftGraves", Cond.fieldLinkNest RX2 58 "LoftGraves$Parish" "labels" "[I" "LoftGraves", Cond.fieldLinkNest RX6 178 "LoftGraves$Parish" "labels" "[I" "LoftGraves", Cond.fieldLinkNest RX2 29 "LoftGraves$Parish" "marks" "[I" "LoftGraves", Cond.fieldLinkNest RX6 181 "LoftGraves$Parish" "marks" "[I" "LoftGraves", Cond.fieldLinkNest RX6 171 "LoftGraves$Parish" "knocked" "I" "LoftGraves", Cond.fieldLinkNest RX6 130 "LoftGraves$Parish" "hours" "I" "LoftGraves", Cond.fieldLinkNest RX6 93 "LoftGraves$Parish" "chance" "I" "LoftGraves", Cond.methodLinkNest RX6 51 yX0_init "LoftGraves", Cond.fieldLinkNest RX6 295 "LoftGraves$Book" "who" "[I" "LoftGraves", Cond.fieldLinkNest RX6 298 "LoftGraves$Book" "where" "[I" "LoftGraves", Cond.fieldLinkNest RX6 100 "LoftGraves$Book" "count" "I" "LoftGraves", Cond.methodLinkNest RX6 58 yX4_init "LoftGraves", Cond.fieldLinkNest RX6 261 "LoftGraves$Plan" "best" "[I" "LoftGraves", Cond.fieldLinkNest RX6 258 "LoftGraves$Plan" "fewest" "I" "LoftGraves", Cond.fieldLinkNest RX6 255 "LoftGraves$Plan" "found" "Z" "LoftGraves", Cond.methodLinkNest RX6 65 yX2_init "LoftGraves", Cond.methodLinkNest RX6 70 yX1_add "LoftGraves", Cond.methodLinkNest RX1 19 yX6_put "LoftGraves", Cond.methodLinkNest RX6 74 yX3_settle "LoftGraves", Cond.methodLinkNest RX3 110 yX6_put "LoftGraves", Cond.methodLinkNest RX3 114 yX6_allBelow "LoftGraves"]
theorem zNW_in_1 : ∀ w ∈ zNW_1, w ∈ tables_1_1 := zmem_of [25, 31, 33, 34, 36, 38, 53, 58, 60, 61, 70, 75, 77, 78, 80, 82, 84, 86, 88, 90, 91, 93, 95, 97, 98, 100, 101, 103, 104, 106, 108, 110, 146, 151, 153, 155, 165, 173, 175, 177, 193, 201, 205, 208, 212, 213] (by decide +kernel)
def zNW_2 : List Cond := [Cond.methodLinkNest RX6 83 yX5_append "LoftGraves", Cond.methodLinkNest RX6 86 yX3_readFrom "LoftGraves", Cond.methodLinkNest RX3 65 yX5_begin "LoftGraves", Cond.methodLinkNest RX3 70 yX5_goesOn "LoftGraves", Cond.methodLinkNest RX3 82 yX5_takeWord "LoftGraves", Cond.methodLinkNest RX3 99 yX5_blame "LoftGraves", Cond.methodLinkNest RX3 103 yX5_takeNumber "LoftGraves", Cond.methodLinkNest RX3 107 yX5_takeStop "LoftGraves", Cond.methodLinkNest RX6 96 yX3_copyFrom "LoftGraves", Cond.methodLinkNest RX3 61 yX6_copyRow "LoftGraves", Cond.methodLinkNest RX6 106 yX1_readFrom "LoftGraves", Cond.methodLinkNest RX1 31 yX5_begin "LoftGraves", Cond.methodLinkNest RX1 36 yX5_goesOn "LoftGraves", Cond.methodLinkNest RX1 49 yX5_takeWord "LoftGraves", Cond.methodLinkNest RX1 59 yX5_blame "LoftGraves", Cond.methodLinkNest RX1 23 yX6_at "LoftGraves", Cond.methodLinkNest RX1 71 yX5_takeStop "LoftGraves", Cond.methodLinkNest RX6 107 yX1_copyFrom "LoftGraves", Cond.methodLinkNest RX1 27 yX6_copyRow "LoftGraves", Cond.methodLinkNest RX6 123 yX3_waiting "LoftGraves", Cond.methodLinkNest RX3 118 yX6_at "LoftGraves", Cond.methodLinkNest RX3 122 yX6_bit "LoftGraves", Cond.methodLinkNest RX6 127 yX3_laid "LoftGraves", Cond.methodLinkNest RX6 133 yX3_hasYard "LoftGraves", Cond.methodLinkNest RX6 146 yX3_whoLiesIn "LoftGraves", Cond.methodLinkNest RX6 150 yX3_hasDead "LoftGraves", Cond.methodLinkNest RX6 184 yX3_placeAmong "LoftGraves"]
theorem zNW_in_2 : ∀ w ∈ zNW_2, w ∈ tables_1_2 := zmem_of [22, 30, 34, 38, 55, 111, 115, 120, 134, 138, 149, 153, 154, 160, 164, 169, 171, 172, 176, 185, 193, 194, 195, 200, 205, 213, 224] (by decide +kernel)
def zNW_3 : List Cond := [Cond.methodLinkNest RX3 138 yX6_has "LoftGraves", Cond.methodLinkNest RX6 202 yX3_passDay "LoftGraves", Cond.methodLinkNest RX6 205 yX3_soft "LoftGraves", Cond.methodLinkNest RX6 208 yX3_passNight "LoftGraves", Cond.methodLinkNest RX6 211 yX3_boardless "LoftGraves", Cond.methodLinkNest RX6 214 yX3_taken "LoftGraves", Cond.methodLinkNest RX6 217 yX3_layDown "LoftGraves", Cond.methodLinkNest RX6 220 yX3_draw "LoftGraves", Cond.methodLinkNest RX6 231 yX3_firstAmong "LoftGraves", Cond.methodLinkNest RX6 235 yX3_softAndFree "LoftGraves", Cond.methodLinkNest RX6 241 yX4_begin "LoftGraves", Cond.methodLinkNest RX4 32 yX6_put "LoftGraves", Cond.methodLinkNest RX4 36 yX3_hasDead "LoftGraves", Cond.methodLinkNest RX4 45 yX6_at "LoftGraves", Cond.methodLinkNest RX4 49 yX3_claim "LoftGraves", Cond.methodLinkNest RX4 53 yX6_bit "LoftGraves", Cond.methodLinkNest RX6 245 yX4_whoOffends "LoftGraves", Cond.methodLinkNest RX4 60 yX6_has "LoftGraves", Cond.methodLinkNest RX6 248 yX4_quarrelsNow "LoftGraves", Cond.methodLinkNest RX6 251 yX4_find "LoftGraves", Cond.methodLinkNest RX4 92 yX6_copyRow "LoftGraves", Cond.methodLinkNest RX6 264 yX3_daysUntilSoft "LoftGraves", Cond.methodLinkNest RX6 273 yX2_countWays "LoftGraves", Cond.methodLinkNest RX2 21 yX6_allBelow "LoftGraves", Cond.methodLinkNest RX2 25 yX6_put "LoftGraves", Cond.methodLinkNest RX2 37 yX6_at "LoftGraves", Cond.methodLinkNest RX2 41 yX6_has "LoftGraves", Cond.methodLinkNest RX2 45 yX6_bit "LoftGraves", Cond.methodLinkNest RX6 277 yX2_weigh "LoftGraves", Cond.methodLinkNest RX6 280 yX2_fewestChanges "LoftGraves", Cond.methodLinkNest RX6 283 yX2_nameOf "LoftGraves", Cond.methodLinkNest RX6 287 yX3_ranksOf "LoftGraves"]
theorem zNW_in_3 : ∀ w ∈ zNW_3, w ∈ tables_1_3 := zmem_of [4, 25, 42, 50, 62, 70, 71, 79, 84, 89, 108, 112, 113, 114, 115, 116, 117, 125, 130, 149, 158, 163, 196, 200, 201, 203, 204, 205, 210, 219, 223, 231] (by decide +kernel)
def zNW_4 : List Cond := [Cond.methodLinkNest RX6 293 yX0_add "LoftGraves", Cond.methodLinkNest RX0 22 yX6_put "LoftGraves"]
theorem zNW_in_4 : ∀ w ∈ zNW_4, w ∈ tables_1_4 := zmem_of [0, 4] (by decide +kernel)
def zNW_5 : List Cond := []
theorem zNW_in_5 : ∀ w ∈ zNW_5, w ∈ tables_1_5 := zmem_of [] (by decide +kernel)
def zNW : List Cond := zNW_1 ++ (zNW_2 ++ (zNW_3 ++ (zNW_4 ++ (zNW_5))))
theorem zNW_in : ∀ w ∈ zNW, w ∈ lw_tbl := by
  intro w h
  refine List.mem_append_right _ ?_
  rcases List.mem_append.mp h with h | h
  · exact List.mem_append_left _ (zNW_in_1 w h)
  refine List.mem_append_right _ ?_
  rcases List.mem_append.mp h with h | h
  · exact List.mem_append_left _ (zNW_in_2 w h)
  refine List.mem_append_right _ ?_
  rcases List.mem_append.mp h with h | h
  · exact List.mem_append_left _ (zNW_in_3 w h)
  refine List.mem_append_right _ ?_
  rcases List.mem_append.mp h with h | h
  · exact List.mem_append_left _ (zNW_in_4 w h)
  exact List.mem_append_right _ (zNW_in_5 w h)
def zisNest : Cond → Bool
  | .fieldLinkNest _ _ _ _ _ _ => true
  | .methodLinkNest _ _ _ _ => true
  | _ => false
theorem zNW_nest : zNW.all zisNest = true := by decide +kernel
/-- the words that a contract may rest on -/
def zT : List Cond := lw_tbl.filter goodWord
theorem zT_sub : ∀ w ∈ zT, w ∈ lw_tbl := fun _ h => (List.mem_filter.mp h).1
theorem zgood {w : Cond} (h : w ∈ zT) : goodWord w = true := (List.mem_filter.mp h).2
theorem ztp {i : Nat} {w : Cond} (h : (k2_sels lw_privs)[i]? = some w) (hg : goodWord w = true) : w ∈ zT := List.mem_filter.mpr ⟨List.mem_append_left _ (List.mem_of_getElem? h), hg⟩
theorem zt1 {i : Nat} {w : Cond} (h : tables_1_1[i]? = some w) (hg : goodWord w = true) : w ∈ zT := List.mem_filter.mpr ⟨List.mem_append_right _ (List.mem_append_left _ (List.mem_of_getElem? h)), hg⟩
theorem zt2 {i : Nat} {w : Cond} (h : tables_1_2[i]? = some w) (hg : goodWord w = true) : w ∈ zT := List.mem_filter.mpr ⟨List.mem_append_right _ (List.mem_append_right _ (List.mem_append_left _ (List.mem_of_getElem? h))), hg⟩
theorem zt3 {i : Nat} {w : Cond} (h : tables_1_3[i]? = some w) (hg : goodWord w = true) : w ∈ zT := List.mem_filter.mpr ⟨List.mem_append_right _ (List.mem_append_right _ (List.mem_append_right _ (List.mem_append_left _ (List.mem_of_getElem? h)))), hg⟩
theorem zt4 {i : Nat} {w : Cond} (h : tables_1_4[i]? = some w) (hg : goodWord w = true) : w ∈ zT := List.mem_filter.mpr ⟨List.mem_append_right _ (List.mem_append_right _ (List.mem_append_right _ (List.mem_append_right _ (List.mem_append_left _ (List.mem_of_getElem? h))))), hg⟩
theorem zt5 {i : Nat} {w : Cond} (h : tables_1_5[i]? = some w) (hg : goodWord w = true) : w ∈ zT := List.mem_filter.mpr ⟨List.mem_append_right _ (List.mem_append_right _ (List.mem_append_right _ (List.mem_append_right _ (List.mem_append_right _ (List.mem_of_getElem? h))))), hg⟩
end
section
theorem dX0_init_0 : decode cX0_init 0 = .ok (.aload_n 0, 1) := by decide +kernel
theorem dX0_init_1 : decode cX0_init 1 = .ok (.invokespecial 3, 3) := by decide +kernel
theorem dX0_init_4 : decode cX0_init 4 = .ok (.aload_n 0, 1) := by decide +kernel
theorem dX0_init_5 : decode cX0_init 5 = .ok (.bipush 20, 2) := by decide +kernel
theorem dX0_init_7 : decode cX0_init 7 = .ok (.newarray .int, 2) := by decide +kernel
theorem dX0_init_9 : decode cX0_init 9 = .ok (.putfield 9, 3) := by decide +kernel
theorem dX0_init_12 : decode cX0_init 12 = .ok (.aload_n 0, 1) := by decide +kernel
theorem dX0_init_13 : decode cX0_init 13 = .ok (.bipush 20, 2) := by decide +kernel
theorem dX0_init_15 : decode cX0_init 15 = .ok (.newarray .int, 2) := by decide +kernel
theorem dX0_init_17 : decode cX0_init 17 = .ok (.putfield 15, 3) := by decide +kernel
theorem dX0_init_20 : decode cX0_init 20 = .ok (.aload_n 0, 1) := by decide +kernel
theorem dX0_init_21 : decode cX0_init 21 = .ok (.iconst 0, 1) := by decide +kernel
theorem dX0_init_22 : decode cX0_init 22 = .ok (.putfield 18, 3) := by decide +kernel
theorem dX0_init_25 : decode cX0_init 25 = .ok (.return_, 1) := by decide +kernel
theorem dX0_add_0 : decode cX0_add 0 = .ok (.aload_n 0, 1) := by decide +kernel
theorem dX0_add_1 : decode cX0_add 1 = .ok (.getfield 9, 3) := by decide +kernel
theorem dX0_add_4 : decode cX0_add 4 = .ok (.aload_n 0, 1) := by decide +kernel
theorem dX0_add_5 : decode cX0_add 5 = .ok (.getfield 18, 3) := by decide +kernel
theorem dX0_add_8 : decode cX0_add 8 = .ok (.iload_n 1, 1) := by decide +kernel
theorem dX0_add_9 : decode cX0_add 9 = .ok (.invokestatic 22, 3) := by decide +kernel
theorem dX0_add_12 : decode cX0_add 12 = .ok (.aload_n 0, 1) := by decide +kernel
theorem dX0_add_13 : decode cX0_add 13 = .ok (.getfield 15, 3) := by decide +kernel
theorem dX0_add_16 : decode cX0_add 16 = .ok (.aload_n 0, 1) := by decide +kernel
theorem dX0_add_17 : decode cX0_add 17 = .ok (.getfield 18, 3) := by decide +kernel
theorem dX0_add_20 : decode cX0_add 20 = .ok (.iload_n 2, 1) := by decide +kernel
theorem dX0_add_21 : decode cX0_add 21 = .ok (.invokestatic 22, 3) := by decide +kernel
theorem dX0_add_24 : decode cX0_add 24 = .ok (.aload_n 0, 1) := by decide +kernel
theorem dX0_add_25 : decode cX0_add 25 = .ok (.dup, 1) := by decide +kernel
theorem dX0_add_26 : decode cX0_add 26 = .ok (.getfield 18, 3) := by decide +kernel
theorem dX0_add_29 : decode cX0_add 29 = .ok (.iconst 1, 1) := by decide +kernel
theorem dX0_add_30 : decode cX0_add 30 = .ok (.iadd, 1) := by decide +kernel
theorem dX0_add_31 : decode cX0_add 31 = .ok (.putfield 18, 3) := by decide +kernel
theorem dX0_add_34 : decode cX0_add 34 = .ok (.return_, 1) := by decide +kernel
theorem dX1_init_0 : decode cX1_init 0 = .ok (.aload_n 0, 1) := by decide +kernel
theorem dX1_init_1 : decode cX1_init 1 = .ok (.invokespecial 3, 3) := by decide +kernel
theorem dX1_init_4 : decode cX1_init 4 = .ok (.aload_n 0, 1) := by decide +kernel
theorem dX1_init_5 : decode cX1_init 5 = .ok (.iconst 4, 1) := by decide +kernel
theorem dX1_init_6 : decode cX1_init 6 = .ok (.newarray .int, 2) := by decide +kernel
theorem dX1_init_8 : decode cX1_init 8 = .ok (.putfield 9, 3) := by decide +kernel
theorem dX1_init_11 : decode cX1_init 11 = .ok (.aload_n 0, 1) := by decide +kernel
theorem dX1_init_12 : decode cX1_init 12 = .ok (.iconst 0, 1) := by decide +kernel
theorem dX1_init_13 : decode cX1_init 13 = .ok (.putfield 15, 3) := by decide +kernel
theorem dX1_init_16 : decode cX1_init 16 = .ok (.return_, 1) := by decide +kernel
theorem dX1_add_0 : decode cX1_add 0 = .ok (.aload_n 0, 1) := by decide +kernel
theorem dX1_add_1 : decode cX1_add 1 = .ok (.getfield 9, 3) := by decide +kernel
theorem dX1_add_4 : decode cX1_add 4 = .ok (.aload_n 0, 1) := by decide +kernel
theorem dX1_add_5 : decode cX1_add 5 = .ok (.getfield 15, 3) := by decide +kernel
theorem dX1_add_8 : decode cX1_add 8 = .ok (.iload_n 1, 1) := by decide +kernel
theorem dX1_add_9 : decode cX1_add 9 = .ok (.invokestatic 19, 3) := by decide +kernel
theorem dX1_add_12 : decode cX1_add 12 = .ok (.aload_n 0, 1) := by decide +kernel
theorem dX1_add_13 : decode cX1_add 13 = .ok (.dup, 1) := by decide +kernel
theorem dX1_add_14 : decode cX1_add 14 = .ok (.getfield 15, 3) := by decide +kernel
theorem dX1_add_17 : decode cX1_add 17 = .ok (.iconst 1, 1) := by decide +kernel
theorem dX1_add_18 : decode cX1_add 18 = .ok (.iadd, 1) := by decide +kernel
theorem dX1_add_19 : decode cX1_add 19 = .ok (.putfield 15, 3) := by decide +kernel
theorem dX1_add_22 : decode cX1_add 22 = .ok (.return_, 1) := by decide +kernel
theorem dX1_counts_0 : decode cX1_counts 0 = .ok (.iconst 0, 1) := by decide +kernel
theorem dX1_counts_1 : decode cX1_counts 1 = .ok (.istore_n 2, 1) := by decide +kernel
theorem dX1_counts_2 : decode cX1_counts 2 = .ok (.iload_n 2, 1) := by decide +kernel
theorem dX1_counts_3 : decode cX1_counts 3 = .ok (.aload_n 0, 1) := by decide +kernel
theorem dX1_counts_4 : decode cX1_counts 4 = .ok (.getfield 15, 3) := by decide +kernel
theorem dX1_counts_7 : decode cX1_counts 7 = .ok (.if_icmp .ge 23, 3) := by decide +kernel
theorem dX1_counts_10 : decode cX1_counts 10 = .ok (.aload_n 0, 1) := by decide +kernel
theorem dX1_counts_11 : decode cX1_counts 11 = .ok (.getfield 9, 3) := by decide +kernel
theorem dX1_counts_14 : decode cX1_counts 14 = .ok (.iload_n 2, 1) := by decide +kernel
theorem dX1_counts_15 : decode cX1_counts 15 = .ok (.invokestatic 23, 3) := by decide +kernel
theorem dX1_counts_18 : decode cX1_counts 18 = .ok (.iload_n 1, 1) := by decide +kernel
theorem dX1_counts_19 : decode cX1_counts 19 = .ok (.if_icmp .ne 5, 3) := by decide +kernel
theorem dX1_counts_22 : decode cX1_counts 22 = .ok (.iconst 1, 1) := by decide +kernel
theorem dX1_counts_23 : decode cX1_counts 23 = .ok (.ireturn, 1) := by decide +kernel
theorem dX1_counts_24 : decode cX1_counts 24 = .ok (.iinc 2 1, 3) := by decide +kernel
theorem dX1_counts_27 : decode cX1_counts 27 = .ok (.goto (-25), 3) := by decide +kernel
theorem dX1_counts_30 : decode cX1_counts 30 = .ok (.iconst 0, 1) := by decide +kernel
theorem dX1_counts_31 : decode cX1_counts 31 = .ok (.ireturn, 1) := by decide +kernel
theorem dX1_copyFrom_0 : decode cX1_copyFrom 0 = .ok (.aload_n 1, 1) := by decide +kernel
theorem dX1_copyFrom_1 : decode cX1_copyFrom 1 = .ok (.getfield 9, 3) := by decide +kernel
theorem dX1_copyFrom_4 : decode cX1_copyFrom 4 = .ok (.aload_n 0, 1) := by decide +kernel
theorem dX1_copyFrom_5 : decode cX1_copyFrom 5 = .ok (.getfield 9, 3) := by decide +kernel
theorem dX1_copyFrom_8 : decode cX1_copyFrom 8 = .ok (.invokestatic 27, 3) := by decide +kernel
theorem dX1_copyFrom_11 : decode cX1_copyFrom 11 = .ok (.aload_n 0, 1) := by decide +kernel
theorem dX1_copyFrom_12 : decode cX1_copyFrom 12 = .ok (.aload_n 1, 1) := by decide +kernel
theorem dX1_copyFrom_13 : decode cX1_copyFrom 13 = .ok (.getfield 15, 3) := by decide +kernel
theorem dX1_copyFrom_16 : decode cX1_copyFrom 16 = .ok (.putfield 15, 3) := by decide +kernel
theorem dX1_copyFrom_19 : decode cX1_copyFrom 19 = .ok (.return_, 1) := by decide +kernel
theorem dX1_readFrom_0 : decode cX1_readFrom 0 = .ok (.aload_n 0, 1) := by decide +kernel
theorem dX1_readFrom_1 : decode cX1_readFrom 1 = .ok (.iconst 0, 1) := by decide +kernel
theorem dX1_readFrom_2 : decode cX1_readFrom 2 = .ok (.putfield 15, 3) := by decide +kernel
theorem dX1_readFrom_5 : decode cX1_readFrom 5 = .ok (.aload_n 1, 1) := by decide +kernel
theorem dX1_readFrom_6 : decode cX1_readFrom 6 = .ok (.invokevirtual 31, 3) := by decide +kernel
theorem dX1_readFrom_9 : decode cX1_readFrom 9 = .ok (.iconst 0, 1) := by decide +kernel
theorem dX1_readFrom_10 : decode cX1_readFrom 10 = .ok (.istore_n 2, 1) := by decide +kernel
theorem dX1_readFrom_11 : decode cX1_readFrom 11 = .ok (.iload_n 2, 1) := by decide +kernel
theorem dX1_readFrom_12 : decode cX1_readFrom 12 = .ok (.sipush 400, 3) := by decide +kernel
theorem dX1_readFrom_15 : decode cX1_readFrom 15 = .ok (.if_icmp .ge 21, 3) := by decide +kernel
theorem dX1_readFrom_18 : decode cX1_readFrom 18 = .ok (.aload_n 1, 1) := by decide +kernel
theorem dX1_readFrom_19 : decode cX1_readFrom 19 = .ok (.invokevirtual 36, 3) := by decide +kernel
theorem dX1_readFrom_22 : decode cX1_readFrom 22 = .ok (.ifCond .eq 14, 3) := by decide +kernel
theorem dX1_readFrom_25 : decode cX1_readFrom 25 = .ok (.aload_n 0, 1) := by decide +kernel
theorem dX1_readFrom_26 : decode cX1_readFrom 26 = .ok (.aload_n 1, 1) := by decide +kernel
theorem dX1_readFrom_27 : decode cX1_readFrom 27 = .ok (.invokevirtual 40, 3) := by decide +kernel
theorem dX1_readFrom_30 : decode cX1_readFrom 30 = .ok (.iinc 2 1, 3) := by decide +kernel
theorem dX1_readFrom_33 : decode cX1_readFrom 33 = .ok (.goto (-22), 3) := by decide +kernel
theorem dX1_readFrom_36 : decode cX1_readFrom 36 = .ok (.return_, 1) := by decide +kernel
theorem dX1_readClause_0 : decode cX1_readClause 0 = .ok (.aload_n 1, 1) := by decide +kernel
theorem dX1_readClause_1 : decode cX1_readClause 1 = .ok (.getfield 44, 3) := by decide +kernel
theorem dX1_readClause_4 : decode cX1_readClause 4 = .ok (.istore_n 2, 1) := by decide +kernel
theorem dX1_readClause_5 : decode cX1_readClause 5 = .ok (.iconst (-1), 1) := by decide +kernel
theorem dX1_readClause_6 : decode cX1_readClause 6 = .ok (.istore_n 3, 1) := by decide +kernel
theorem dX1_readClause_7 : decode cX1_readClause 7 = .ok (.aload_n 1, 1) := by decide +kernel
theorem dX1_readClause_8 : decode cX1_readClause 8 = .ok (.ldc 47, 2) := by decide +kernel
theorem dX1_readClause_10 : decode cX1_readClause 10 = .ok (.invokevirtual 49, 3) := by decide +kernel
theorem dX1_readClause_13 : decode cX1_readClause 13 = .ok (.ifCond .eq 8, 3) := by decide +kernel
theorem dX1_readClause_16 : decode cX1_readClause 16 = .ok (.iconst 0, 1) := by decide +kernel
theorem dX1_readClause_17 : decode cX1_readClause 17 = .ok (.istore_n 3, 1) := by decide +kernel
theorem dX1_readClause_18 : decode cX1_readClause 18 = .ok (.goto 42, 3) := by decide +kernel
theorem dX1_readClause_21 : decode cX1_readClause 21 = .ok (.aload_n 1, 1) := by decide +kernel
theorem dX1_readClause_22 : decode cX1_readClause 22 = .ok (.ldc 53, 2) := by decide +kernel
theorem dX1_readClause_24 : decode cX1_readClause 24 = .ok (.invokevirtual 49, 3) := by decide +kernel
theorem dX1_readClause_27 : decode cX1_readClause 27 = .ok (.ifCond .eq 8, 3) := by decide +kernel
theorem dX1_readClause_30 : decode cX1_readClause 30 = .ok (.iconst 1, 1) := by decide +kernel
theorem dX1_readClause_31 : decode cX1_readClause 31 = .ok (.istore_n 3, 1) := by decide +kernel
theorem dX1_readClause_32 : decode cX1_readClause 32 = .ok (.goto 28, 3) := by decide +kernel
theorem dX1_readClause_35 : decode cX1_readClause 35 = .ok (.aload_n 1, 1) := by decide +kernel
theorem dX1_readClause_36 : decode cX1_readClause 36 = .ok (.ldc 55, 2) := by decide +kernel
theorem dX1_readClause_38 : decode cX1_readClause 38 = .ok (.invokevirtual 49, 3) := by decide +kernel
theorem dX1_readClause_41 : decode cX1_readClause 41 = .ok (.ifCond .eq 8, 3) := by decide +kernel
theorem dX1_readClause_44 : decode cX1_readClause 44 = .ok (.iconst 2, 1) := by decide +kernel
theorem dX1_readClause_45 : decode cX1_readClause 45 = .ok (.istore_n 3, 1) := by decide +kernel
theorem dX1_readClause_46 : decode cX1_readClause 46 = .ok (.goto 14, 3) := by decide +kernel
theorem dX1_readClause_49 : decode cX1_readClause 49 = .ok (.aload_n 1, 1) := by decide +kernel
theorem dX1_readClause_50 : decode cX1_readClause 50 = .ok (.ldc 57, 2) := by decide +kernel
theorem dX1_readClause_52 : decode cX1_readClause 52 = .ok (.invokevirtual 49, 3) := by decide +kernel
theorem dX1_readClause_55 : decode cX1_readClause 55 = .ok (.ifCond .eq 5, 3) := by decide +kernel
theorem dX1_readClause_58 : decode cX1_readClause 58 = .ok (.iconst 3, 1) := by decide +kernel
theorem dX1_readClause_59 : decode cX1_readClause 59 = .ok (.istore_n 3, 1) := by decide +kernel
theorem dX1_readClause_60 : decode cX1_readClause 60 = .ok (.iload_n 3, 1) := by decide +kernel
theorem dX1_readClause_61 : decode cX1_readClause 61 = .ok (.iconst (-1), 1) := by decide +kernel
theorem dX1_readClause_62 : decode cX1_readClause 62 = .ok (.if_icmp .ne 12, 3) := by decide +kernel
theorem dX1_readClause_65 : decode cX1_readClause 65 = .ok (.aload_n 1, 1) := by decide +kernel
theorem dX1_readClause_66 : decode cX1_readClause 66 = .ok (.iconst 1, 1) := by decide +kernel
theorem dX1_readClause_67 : decode cX1_readClause 67 = .ok (.iload_n 2, 1) := by decide +kernel
theorem dX1_readClause_68 : decode cX1_readClause 68 = .ok (.invokevirtual 59, 3) := by decide +kernel
theorem dX1_readClause_71 : decode cX1_readClause 71 = .ok (.goto 29, 3) := by decide +kernel
theorem dX1_readClause_74 : decode cX1_readClause 74 = .ok (.aload_n 0, 1) := by decide +kernel
theorem dX1_readClause_75 : decode cX1_readClause 75 = .ok (.iload_n 3, 1) := by decide +kernel
theorem dX1_readClause_76 : decode cX1_readClause 76 = .ok (.invokevirtual 63, 3) := by decide +kernel
theorem dX1_readClause_79 : decode cX1_readClause 79 = .ok (.ifCond .eq 12, 3) := by decide +kernel
theorem dX1_readClause_82 : decode cX1_readClause 82 = .ok (.aload_n 1, 1) := by decide +kernel
theorem dX1_readClause_83 : decode cX1_readClause 83 = .ok (.iconst 3, 1) := by decide +kernel
theorem dX1_readClause_84 : decode cX1_readClause 84 = .ok (.iload_n 2, 1) := by decide +kernel
theorem dX1_readClause_85 : decode cX1_readClause 85 = .ok (.invokevirtual 59, 3) := by decide +kernel
theorem dX1_readClause_88 : decode cX1_readClause 88 = .ok (.goto 12, 3) := by decide +kernel
theorem dX1_readClause_91 : decode cX1_readClause 91 = .ok (.aload_n 0, 1) := by decide +kernel
theorem dX1_readClause_92 : decode cX1_readClause 92 = .ok (.iload_n 3, 1) := by decide +kernel
theorem dX1_readClause_93 : decode cX1_readClause 93 = .ok (.invokevirtual 67, 3) := by decide +kernel
theorem dX1_readClause_96 : decode cX1_readClause 96 = .ok (.aload_n 1, 1) := by decide +kernel
theorem dX1_readClause_97 : decode cX1_readClause 97 = .ok (.invokevirtual 71, 3) := by decide +kernel
theorem dX1_readClause_100 : decode cX1_readClause 100 = .ok (.return_, 1) := by decide +kernel
theorem dX2_init_0 : decode cX2_init 0 = .ok (.aload_n 0, 1) := by decide +kernel
theorem dX2_init_1 : decode cX2_init 1 = .ok (.invokespecial 3, 3) := by decide +kernel
theorem dX2_init_4 : decode cX2_init 4 = .ok (.aload_n 0, 1) := by decide +kernel
theorem dX2_init_5 : decode cX2_init 5 = .ok (.sipush 128, 3) := by decide +kernel
theorem dX2_init_8 : decode cX2_init 8 = .ok (.newarray .int, 2) := by decide +kernel
theorem dX2_init_10 : decode cX2_init 10 = .ok (.putfield 9, 3) := by decide +kernel
theorem dX2_init_13 : decode cX2_init 13 = .ok (.return_, 1) := by decide +kernel
theorem dX2_countWays_0 : decode cX2_countWays 0 = .ok (.aload_n 1, 1) := by decide +kernel
theorem dX2_countWays_1 : decode cX2_countWays 1 = .ok (.getfield 15, 3) := by decide +kernel
theorem dX2_countWays_4 : decode cX2_countWays 4 = .ok (.invokestatic 21, 3) := by decide +kernel
theorem dX2_countWays_7 : decode cX2_countWays 7 = .ok (.istore_n 2, 1) := by decide +kernel
theorem dX2_countWays_8 : decode cX2_countWays 8 = .ok (.aload_n 0, 1) := by decide +kernel
theorem dX2_countWays_9 : decode cX2_countWays 9 = .ok (.getfield 9, 3) := by decide +kernel
theorem dX2_countWays_12 : decode cX2_countWays 12 = .ok (.iconst 0, 1) := by decide +kernel
theorem dX2_countWays_13 : decode cX2_countWays 13 = .ok (.iconst 1, 1) := by decide +kernel
theorem dX2_countWays_14 : decode cX2_countWays 14 = .ok (.invokestatic 25, 3) := by decide +kernel
theorem dX2_countWays_17 : decode cX2_countWays 17 = .ok (.iconst 1, 1) := by decide +kernel
theorem dX2_countWays_18 : decode cX2_countWays 18 = .ok (.istore_n 3, 1) := by decide +kernel
theorem dX2_countWays_19 : decode cX2_countWays 19 = .ok (.iload_n 3, 1) := by decide +kernel
theorem dX2_countWays_20 : decode cX2_countWays 20 = .ok (.iload_n 2, 1) := by decide +kernel
theorem dX2_countWays_21 : decode cX2_countWays 21 = .ok (.if_icmp .gt 88, 3) := by decide +kernel
theorem dX2_countWays_24 : decode cX2_countWays 24 = .ok (.iload_n 3, 1) := by decide +kernel
theorem dX2_countWays_25 : decode cX2_countWays 25 = .ok (.aload_n 1, 1) := by decide +kernel
theorem dX2_countWays_26 : decode cX2_countWays 26 = .ok (.getfield 29, 3) := by decide +kernel
theorem dX2_countWays_29 : decode cX2_countWays 29 = .ok (.iload_n 3, 1) := by decide +kernel
theorem dX2_countWays_30 : decode cX2_countWays 30 = .ok (.invokestatic 32, 3) := by decide +kernel
theorem dX2_countWays_33 : decode cX2_countWays 33 = .ok (.iconst 1, 1) := by decide +kernel
theorem dX2_countWays_34 : decode cX2_countWays 34 = .ok (.isub, 1) := by decide +kernel
theorem dX2_countWays_35 : decode cX2_countWays 35 = .ok (.invokestatic 37, 3) := by decide +kernel
theorem dX2_countWays_38 : decode cX2_countWays 38 = .ok (.iand, 1) := by decide +kernel
theorem dX2_countWays_39 : decode cX2_countWays 39 = .ok (.istore 4, 2) := by decide +kernel
theorem dX2_countWays_41 : decode cX2_countWays 41 = .ok (.iconst 0, 1) := by decide +kernel
theorem dX2_countWays_42 : decode cX2_countWays 42 = .ok (.istore 5, 2) := by decide +kernel
theorem dX2_countWays_44 : decode cX2_countWays 44 = .ok (.iconst 0, 1) := by decide +kernel
theorem dX2_countWays_45 : decode cX2_countWays 45 = .ok (.istore 6, 2) := by decide +kernel
theorem dX2_countWays_47 : decode cX2_countWays 47 = .ok (.iload 6, 2) := by decide +kernel
theorem dX2_countWays_49 : decode cX2_countWays 49 = .ok (.aload_n 1, 1) := by decide +kernel
theorem dX2_countWays_50 : decode cX2_countWays 50 = .ok (.getfield 15, 3) := by decide +kernel
theorem dX2_countWays_53 : decode cX2_countWays 53 = .ok (.if_icmp .ge 40, 3) := by decide +kernel
theorem dX2_countWays_56 : decode cX2_countWays 56 = .ok (.iload 4, 2) := by decide +kernel
theorem dX2_countWays_58 : decode cX2_countWays 58 = .ok (.iload 6, 2) := by decide +kernel
theorem dX2_countWays_60 : decode cX2_countWays 60 = .ok (.invokestatic 41, 3) := by decide +kernel
theorem dX2_countWays_63 : decode cX2_countWays 63 = .ok (.ifCond .eq 24, 3) := by decide +kernel
theorem dX2_countWays_66 : decode cX2_countWays 66 = .ok (.iload 5, 2) := by decide +kernel
theorem dX2_countWays_68 : decode cX2_countWays 68 = .ok (.aload_n 0, 1) := by decide +kernel
theorem dX2_countWays_69 : decode cX2_countWays 69 = .ok (.getfield 9, 3) := by decide +kernel
theorem dX2_countWays_72 : decode cX2_countWays 72 = .ok (.iload_n 3, 1) := by decide +kernel
theorem dX2_countWays_73 : decode cX2_countWays 73 = .ok (.iload 6, 2) := by decide +kernel
theorem dX2_countWays_75 : decode cX2_countWays 75 = .ok (.invokestatic 45, 3) := by decide +kernel
theorem dX2_countWays_78 : decode cX2_countWays 78 = .ok (.iconst (-1), 1) := by decide +kernel
theorem dX2_countWays_79 : decode cX2_countWays 79 = .ok (.ixor, 1) := by decide +kernel
theorem dX2_countWays_80 : decode cX2_countWays 80 = .ok (.iand, 1) := by decide +kernel
theorem dX2_countWays_81 : decode cX2_countWays 81 = .ok (.invokestatic 37, 3) := by decide +kernel
theorem dX2_countWays_84 : decode cX2_countWays 84 = .ok (.iadd, 1) := by decide +kernel
theorem dX2_countWays_85 : decode cX2_countWays 85 = .ok (.istore 5, 2) := by decide +kernel
theorem dX2_countWays_87 : decode cX2_countWays 87 = .ok (.iinc 6 1, 3) := by decide +kernel
theorem dX2_countWays_90 : decode cX2_countWays 90 = .ok (.goto (-43), 3) := by decide +kernel
theorem dX2_countWays_93 : decode cX2_countWays 93 = .ok (.aload_n 0, 1) := by decide +kernel
theorem dX2_countWays_94 : decode cX2_countWays 94 = .ok (.getfield 9, 3) := by decide +kernel
theorem dX2_countWays_97 : decode cX2_countWays 97 = .ok (.iload_n 3, 1) := by decide +kernel
theorem dX2_countWays_98 : decode cX2_countWays 98 = .ok (.iload 5, 2) := by decide +kernel
theorem dX2_countWays_100 : decode cX2_countWays 100 = .ok (.invokestatic 25, 3) := by decide +kernel
theorem dX2_countWays_103 : decode cX2_countWays 103 = .ok (.iinc 3 1, 3) := by decide +kernel
theorem dX2_countWays_106 : decode cX2_countWays 106 = .ok (.goto (-87), 3) := by decide +kernel
theorem dX2_countWays_109 : decode cX2_countWays 109 = .ok (.aload_n 0, 1) := by decide +kernel
theorem dX2_countWays_110 : decode cX2_countWays 110 = .ok (.getfield 9, 3) := by decide +kernel
theorem dX2_countWays_113 : decode cX2_countWays 113 = .ok (.iload_n 2, 1) := by decide +kernel
theorem dX2_countWays_114 : decode cX2_countWays 114 = .ok (.invokestatic 37, 3) := by decide +kernel
theorem dX2_countWays_117 : decode cX2_countWays 117 = .ok (.ireturn, 1) := by decide +kernel
theorem dX2_weigh_0 : decode cX2_weigh 0 = .ok (.aload_n 1, 1) := by decide +kernel
theorem dX2_weigh_1 : decode cX2_weigh 1 = .ok (.getfield 15, 3) := by decide +kernel
theorem dX2_weigh_4 : decode cX2_weigh 4 = .ok (.invokestatic 21, 3) := by decide +kernel
theorem dX2_weigh_7 : decode cX2_weigh 7 = .ok (.istore_n 2, 1) := by decide +kernel
theorem dX2_weigh_8 : decode cX2_weigh 8 = .ok (.aload_n 0, 1) := by decide +kernel
theorem dX2_weigh_9 : decode cX2_weigh 9 = .ok (.getfield 9, 3) := by decide +kernel
theorem dX2_weigh_12 : decode cX2_weigh 12 = .ok (.iload_n 2, 1) := by decide +kernel
theorem dX2_weigh_13 : decode cX2_weigh 13 = .ok (.iconst 0, 1) := by decide +kernel
theorem dX2_weigh_14 : decode cX2_weigh 14 = .ok (.invokestatic 25, 3) := by decide +kernel
theorem dX2_weigh_17 : decode cX2_weigh 17 = .ok (.iload_n 2, 1) := by decide +kernel
theorem dX2_weigh_18 : decode cX2_weigh 18 = .ok (.iconst 1, 1) := by decide +kernel
theorem dX2_weigh_19 : decode cX2_weigh 19 = .ok (.isub, 1) := by decide +kernel
theorem dX2_weigh_20 : decode cX2_weigh 20 = .ok (.istore_n 3, 1) := by decide +kernel
theorem dX2_weigh_21 : decode cX2_weigh 21 = .ok (.iload_n 3, 1) := by decide +kernel
theorem dX2_weigh_22 : decode cX2_weigh 22 = .ok (.ifCond .lt 56, 3) := by decide +kernel
theorem dX2_weigh_25 : decode cX2_weigh 25 = .ok (.bipush 99, 2) := by decide +kernel
theorem dX2_weigh_27 : decode cX2_weigh 27 = .ok (.istore 4, 2) := by decide +kernel
theorem dX2_weigh_29 : decode cX2_weigh 29 = .ok (.iconst 0, 1) := by decide +kernel
theorem dX2_weigh_30 : decode cX2_weigh 30 = .ok (.istore 5, 2) := by decide +kernel
theorem dX2_weigh_32 : decode cX2_weigh 32 = .ok (.iload 5, 2) := by decide +kernel
theorem dX2_weigh_34 : decode cX2_weigh 34 = .ok (.aload_n 1, 1) := by decide +kernel
theorem dX2_weigh_35 : decode cX2_weigh 35 = .ok (.getfield 15, 3) := by decide +kernel
theorem dX2_weigh_38 : decode cX2_weigh 38 = .ok (.if_icmp .ge 24, 3) := by decide +kernel
theorem dX2_weigh_41 : decode cX2_weigh 41 = .ok (.iload 4, 2) := by decide +kernel
theorem dX2_weigh_43 : decode cX2_weigh 43 = .ok (.aload_n 0, 1) := by decide +kernel
theorem dX2_weigh_44 : decode cX2_weigh 44 = .ok (.aload_n 1, 1) := by decide +kernel
theorem dX2_weigh_45 : decode cX2_weigh 45 = .ok (.iload_n 3, 1) := by decide +kernel
theorem dX2_weigh_46 : decode cX2_weigh 46 = .ok (.iload 5, 2) := by decide +kernel
theorem dX2_weigh_48 : decode cX2_weigh 48 = .ok (.invokevirtual 48, 3) := by decide +kernel
theorem dX2_weigh_51 : decode cX2_weigh 51 = .ok (.invokestatic 52, 3) := by decide +kernel
theorem dX2_weigh_54 : decode cX2_weigh 54 = .ok (.istore 4, 2) := by decide +kernel
theorem dX2_weigh_56 : decode cX2_weigh 56 = .ok (.iinc 5 1, 3) := by decide +kernel
theorem dX2_weigh_59 : decode cX2_weigh 59 = .ok (.goto (-27), 3) := by decide +kernel
theorem dX2_weigh_62 : decode cX2_weigh 62 = .ok (.aload_n 0, 1) := by decide +kernel
theorem dX2_weigh_63 : decode cX2_weigh 63 = .ok (.getfield 9, 3) := by decide +kernel
theorem dX2_weigh_66 : decode cX2_weigh 66 = .ok (.iload_n 3, 1) := by decide +kernel
theorem dX2_weigh_67 : decode cX2_weigh 67 = .ok (.iload 4, 2) := by decide +kernel
theorem dX2_weigh_69 : decode cX2_weigh 69 = .ok (.invokestatic 25, 3) := by decide +kernel
theorem dX2_weigh_72 : decode cX2_weigh 72 = .ok (.iinc 3 (-1), 3) := by decide +kernel
theorem dX2_weigh_75 : decode cX2_weigh 75 = .ok (.goto (-54), 3) := by decide +kernel
theorem dX2_weigh_78 : decode cX2_weigh 78 = .ok (.return_, 1) := by decide +kernel
theorem dX2_changesWith_0 : decode cX2_changesWith 0 = .ok (.iload_n 2, 1) := by decide +kernel
theorem dX2_changesWith_1 : decode cX2_changesWith 1 = .ok (.invokestatic 32, 3) := by decide +kernel
theorem dX2_changesWith_4 : decode cX2_changesWith 4 = .ok (.istore 4, 2) := by decide +kernel
theorem dX2_changesWith_6 : decode cX2_changesWith 6 = .ok (.iload_n 2, 1) := by decide +kernel
theorem dX2_changesWith_7 : decode cX2_changesWith 7 = .ok (.iload_n 3, 1) := by decide +kernel
theorem dX2_changesWith_8 : decode cX2_changesWith 8 = .ok (.invokestatic 41, 3) := by decide +kernel
theorem dX2_changesWith_11 : decode cX2_changesWith 11 = .ok (.ifCond .ne 19, 3) := by decide +kernel
theorem dX2_changesWith_14 : decode cX2_changesWith 14 = .ok (.aload_n 1, 1) := by decide +kernel
theorem dX2_changesWith_15 : decode cX2_changesWith 15 = .ok (.getfield 29, 3) := by decide +kernel
theorem dX2_changesWith_18 : decode cX2_changesWith 18 = .ok (.iload 4, 2) := by decide +kernel
theorem dX2_changesWith_20 : decode cX2_changesWith 20 = .ok (.invokestatic 37, 3) := by decide +kernel
theorem dX2_changesWith_23 : decode cX2_changesWith 23 = .ok (.iload_n 3, 1) := by decide +kernel
theorem dX2_changesWith_24 : decode cX2_changesWith 24 = .ok (.invokestatic 41, 3) := by decide +kernel
theorem dX2_changesWith_27 : decode cX2_changesWith 27 = .ok (.ifCond .ne 6, 3) := by decide +kernel
theorem dX2_changesWith_30 : decode cX2_changesWith 30 = .ok (.bipush 99, 2) := by decide +kernel
theorem dX2_changesWith_32 : decode cX2_changesWith 32 = .ok (.ireturn, 1) := by decide +kernel
theorem dX2_changesWith_33 : decode cX2_changesWith 33 = .ok (.aload_n 1, 1) := by decide +kernel
theorem dX2_changesWith_34 : decode cX2_changesWith 34 = .ok (.getfield 58, 3) := by decide +kernel
theorem dX2_changesWith_37 : decode cX2_changesWith 37 = .ok (.iload 4, 2) := by decide +kernel
theorem dX2_changesWith_39 : decode cX2_changesWith 39 = .ok (.invokestatic 37, 3) := by decide +kernel
theorem dX2_changesWith_42 : decode cX2_changesWith 42 = .ok (.iload_n 3, 1) := by decide +kernel
theorem dX2_changesWith_43 : decode cX2_changesWith 43 = .ok (.if_icmp .ne 7, 3) := by decide +kernel
theorem dX2_changesWith_46 : decode cX2_changesWith 46 = .ok (.iconst 0, 1) := by decide +kernel
theorem dX2_changesWith_47 : decode cX2_changesWith 47 = .ok (.goto 4, 3) := by decide +kernel
theorem dX2_changesWith_50 : decode cX2_changesWith 50 = .ok (.iconst 1, 1) := by decide +kernel
theorem dX2_changesWith_51 : decode cX2_changesWith 51 = .ok (.istore 5, 2) := by decide +kernel
theorem dX2_changesWith_53 : decode cX2_changesWith 53 = .ok (.iload 5, 2) := by decide +kernel
theorem dX2_changesWith_55 : decode cX2_changesWith 55 = .ok (.aload_n 0, 1) := by decide +kernel
theorem dX2_changesWith_56 : decode cX2_changesWith 56 = .ok (.getfield 9, 3) := by decide +kernel
theorem dX2_changesWith_59 : decode cX2_changesWith 59 = .ok (.iload_n 2, 1) := by decide +kernel
theorem dX2_changesWith_60 : decode cX2_changesWith 60 = .ok (.iload_n 3, 1) := by decide +kernel
theorem dX2_changesWith_61 : decode cX2_changesWith 61 = .ok (.invokestatic 45, 3) := by decide +kernel
theorem dX2_changesWith_64 : decode cX2_changesWith 64 = .ok (.ior, 1) := by decide +kernel
theorem dX2_changesWith_65 : decode cX2_changesWith 65 = .ok (.invokestatic 37, 3) := by decide +kernel
theorem dX2_changesWith_68 : decode cX2_changesWith 68 = .ok (.iadd, 1) := by decide +kernel
theorem dX2_changesWith_69 : decode cX2_changesWith 69 = .ok (.ireturn, 1) := by decide +kernel
theorem dX2_fewestChanges_0 : decode cX2_fewestChanges 0 = .ok (.aload_n 0, 1) := by decide +kernel
theorem dX2_fewestChanges_1 : decode cX2_fewestChanges 1 = .ok (.getfield 9, 3) := by decide +kernel
theorem dX2_fewestChanges_4 : decode cX2_fewestChanges 4 = .ok (.iconst 0, 1) := by decide +kernel
theorem dX2_fewestChanges_5 : decode cX2_fewestChanges 5 = .ok (.invokestatic 37, 3) := by decide +kernel
theorem dX2_fewestChanges_8 : decode cX2_fewestChanges 8 = .ok (.ireturn, 1) := by decide +kernel
theorem dX2_nameOf_0 : decode cX2_nameOf 0 = .ok (.iconst 0, 1) := by decide +kernel
theorem dX2_nameOf_1 : decode cX2_nameOf 1 = .ok (.istore_n 3, 1) := by decide +kernel
theorem dX2_nameOf_2 : decode cX2_nameOf 2 = .ok (.iconst (-1), 1) := by decide +kernel
theorem dX2_nameOf_3 : decode cX2_nameOf 3 = .ok (.istore 4, 2) := by decide +kernel
theorem dX2_nameOf_5 : decode cX2_nameOf 5 = .ok (.iconst 0, 1) := by decide +kernel
theorem dX2_nameOf_6 : decode cX2_nameOf 6 = .ok (.istore 5, 2) := by decide +kernel
theorem dX2_nameOf_8 : decode cX2_nameOf 8 = .ok (.iload 5, 2) := by decide +kernel
theorem dX2_nameOf_10 : decode cX2_nameOf 10 = .ok (.iload_n 2, 1) := by decide +kernel
theorem dX2_nameOf_11 : decode cX2_nameOf 11 = .ok (.if_icmp .gt 67, 3) := by decide +kernel
theorem dX2_nameOf_14 : decode cX2_nameOf 14 = .ok (.iconst (-1), 1) := by decide +kernel
theorem dX2_nameOf_15 : decode cX2_nameOf 15 = .ok (.istore 4, 2) := by decide +kernel
theorem dX2_nameOf_17 : decode cX2_nameOf 17 = .ok (.iconst 0, 1) := by decide +kernel
theorem dX2_nameOf_18 : decode cX2_nameOf 18 = .ok (.istore 6, 2) := by decide +kernel
theorem dX2_nameOf_20 : decode cX2_nameOf 20 = .ok (.iload 6, 2) := by decide +kernel
theorem dX2_nameOf_22 : decode cX2_nameOf 22 = .ok (.aload_n 1, 1) := by decide +kernel
theorem dX2_nameOf_23 : decode cX2_nameOf 23 = .ok (.getfield 15, 3) := by decide +kernel
theorem dX2_nameOf_26 : decode cX2_nameOf 26 = .ok (.if_icmp .ge 38, 3) := by decide +kernel
theorem dX2_nameOf_29 : decode cX2_nameOf 29 = .ok (.iload 4, 2) := by decide +kernel
theorem dX2_nameOf_31 : decode cX2_nameOf 31 = .ok (.iconst (-1), 1) := by decide +kernel
theorem dX2_nameOf_32 : decode cX2_nameOf 32 = .ok (.if_icmp .ne 32, 3) := by decide +kernel
theorem dX2_nameOf_35 : decode cX2_nameOf 35 = .ok (.aload_n 0, 1) := by decide +kernel
theorem dX2_nameOf_36 : decode cX2_nameOf 36 = .ok (.aload_n 1, 1) := by decide +kernel
theorem dX2_nameOf_37 : decode cX2_nameOf 37 = .ok (.iload_n 3, 1) := by decide +kernel
theorem dX2_nameOf_38 : decode cX2_nameOf 38 = .ok (.iload 6, 2) := by decide +kernel
theorem dX2_nameOf_40 : decode cX2_nameOf 40 = .ok (.invokevirtual 48, 3) := by decide +kernel
theorem dX2_nameOf_43 : decode cX2_nameOf 43 = .ok (.aload_n 0, 1) := by decide +kernel
theorem dX2_nameOf_44 : decode cX2_nameOf 44 = .ok (.getfield 9, 3) := by decide +kernel
theorem dX2_nameOf_47 : decode cX2_nameOf 47 = .ok (.iload_n 3, 1) := by decide +kernel
theorem dX2_nameOf_48 : decode cX2_nameOf 48 = .ok (.invokestatic 37, 3) := by decide +kernel
theorem dX2_nameOf_51 : decode cX2_nameOf 51 = .ok (.if_icmp .ne 7, 3) := by decide +kernel
theorem dX2_nameOf_54 : decode cX2_nameOf 54 = .ok (.iload 6, 2) := by decide +kernel
theorem dX2_nameOf_56 : decode cX2_nameOf 56 = .ok (.istore 4, 2) := by decide +kernel
theorem dX2_nameOf_58 : decode cX2_nameOf 58 = .ok (.iinc 6 1, 3) := by decide +kernel
theorem dX2_nameOf_61 : decode cX2_nameOf 61 = .ok (.goto (-41), 3) := by decide +kernel
theorem dX2_nameOf_64 : decode cX2_nameOf 64 = .ok (.iload_n 3, 1) := by decide +kernel
theorem dX2_nameOf_65 : decode cX2_nameOf 65 = .ok (.iload 4, 2) := by decide +kernel
theorem dX2_nameOf_67 : decode cX2_nameOf 67 = .ok (.invokestatic 45, 3) := by decide +kernel
theorem dX2_nameOf_70 : decode cX2_nameOf 70 = .ok (.ior, 1) := by decide +kernel
theorem dX2_nameOf_71 : decode cX2_nameOf 71 = .ok (.istore_n 3, 1) := by decide +kernel
theorem dX2_nameOf_72 : decode cX2_nameOf 72 = .ok (.iinc 5 1, 3) := by decide +kernel
theorem dX2_nameOf_75 : decode cX2_nameOf 75 = .ok (.goto (-67), 3) := by decide +kernel
theorem dX2_nameOf_78 : decode cX2_nameOf 78 = .ok (.iload 4, 2) := by decide +kernel
theorem dX2_nameOf_80 : decode cX2_nameOf 80 = .ok (.ireturn, 1) := by decide +kernel
theorem dX3_init_0 : decode cX3_init 0 = .ok (.aload_n 0, 1) := by decide +kernel
theorem dX3_init_1 : decode cX3_init 1 = .ok (.invokespecial 3, 3) := by decide +kernel
theorem dX3_init_4 : decode cX3_init 4 = .ok (.aload_n 0, 1) := by decide +kernel
theorem dX3_init_5 : decode cX3_init 5 = .ok (.iconst 0, 1) := by decide +kernel
theorem dX3_init_6 : decode cX3_init 6 = .ok (.putfield 9, 3) := by decide +kernel
theorem dX3_init_9 : decode cX3_init 9 = .ok (.aload_n 0, 1) := by decide +kernel
theorem dX3_init_10 : decode cX3_init 10 = .ok (.iconst 0, 1) := by decide +kernel
theorem dX3_init_11 : decode cX3_init 11 = .ok (.putfield 15, 3) := by decide +kernel
theorem dX3_init_14 : decode cX3_init 14 = .ok (.aload_n 0, 1) := by decide +kernel
theorem dX3_init_15 : decode cX3_init 15 = .ok (.iconst 0, 1) := by decide +kernel
theorem dX3_init_16 : decode cX3_init 16 = .ok (.putfield 18, 3) := by decide +kernel
theorem dX3_init_19 : decode cX3_init 19 = .ok (.aload_n 0, 1) := by decide +kernel
theorem dX3_init_20 : decode cX3_init 20 = .ok (.iconst 0, 1) := by decide +kernel
theorem dX3_init_21 : decode cX3_init 21 = .ok (.putfield 21, 3) := by decide +kernel
theorem dX3_init_24 : decode cX3_init 24 = .ok (.aload_n 0, 1) := by decide +kernel
theorem dX3_init_25 : decode cX3_init 25 = .ok (.bipush 8, 2) := by decide +kernel
theorem dX3_init_27 : decode cX3_init 27 = .ok (.newarray .int, 2) := by decide +kernel
theorem dX3_init_29 : decode cX3_init 29 = .ok (.putfield 24, 3) := by decide +kernel
theorem dX3_init_32 : decode cX3_init 32 = .ok (.aload_n 0, 1) := by decide +kernel
theorem dX3_init_33 : decode cX3_init 33 = .ok (.bipush 7, 2) := by decide +kernel
theorem dX3_init_35 : decode cX3_init 35 = .ok (.newarray .int, 2) := by decide +kernel
theorem dX3_init_37 : decode cX3_init 37 = .ok (.putfield 28, 3) := by decide +kernel
theorem dX3_init_40 : decode cX3_init 40 = .ok (.aload_n 0, 1) := by decide +kernel
theorem dX3_init_41 : decode cX3_init 41 = .ok (.bipush 7, 2) := by decide +kernel
theorem dX3_init_43 : decode cX3_init 43 = .ok (.newarray .int, 2) := by decide +kernel
theorem dX3_init_45 : decode cX3_init 45 = .ok (.putfield 31, 3) := by decide +kernel
theorem dX3_init_48 : decode cX3_init 48 = .ok (.aload_n 0, 1) := by decide +kernel
theorem dX3_init_49 : decode cX3_init 49 = .ok (.bipush 7, 2) := by decide +kernel
theorem dX3_init_51 : decode cX3_init 51 = .ok (.newarray .int, 2) := by decide +kernel
theorem dX3_init_53 : decode cX3_init 53 = .ok (.putfield 34, 3) := by decide +kernel
theorem dX3_init_56 : decode cX3_init 56 = .ok (.aload_n 0, 1) := by decide +kernel
theorem dX3_init_57 : decode cX3_init 57 = .ok (.bipush 7, 2) := by decide +kernel
theorem dX3_init_59 : decode cX3_init 59 = .ok (.newarray .int, 2) := by decide +kernel
theorem dX3_init_61 : decode cX3_init 61 = .ok (.putfield 37, 3) := by decide +kernel
theorem dX3_init_64 : decode cX3_init 64 = .ok (.aload_n 0, 1) := by decide +kernel
theorem dX3_init_65 : decode cX3_init 65 = .ok (.bipush 7, 2) := by decide +kernel
theorem dX3_init_67 : decode cX3_init 67 = .ok (.newarray .int, 2) := by decide +kernel
theorem dX3_init_69 : decode cX3_init 69 = .ok (.putfield 40, 3) := by decide +kernel
theorem dX3_init_72 : decode cX3_init 72 = .ok (.aload_n 0, 1) := by decide +kernel
theorem dX3_init_73 : decode cX3_init 73 = .ok (.bipush 7, 2) := by decide +kernel
theorem dX3_init_75 : decode cX3_init 75 = .ok (.newarray .int, 2) := by decide +kernel
theorem dX3_init_77 : decode cX3_init 77 = .ok (.putfield 43, 3) := by decide +kernel
theorem dX3_init_80 : decode cX3_init 80 = .ok (.aload_n 0, 1) := by decide +kernel
theorem dX3_init_81 : decode cX3_init 81 = .ok (.bipush 7, 2) := by decide +kernel
theorem dX3_init_83 : decode cX3_init 83 = .ok (.newarray .int, 2) := by decide +kernel
theorem dX3_init_85 : decode cX3_init 85 = .ok (.putfield 46, 3) := by decide +kernel
theorem dX3_init_88 : decode cX3_init 88 = .ok (.aload_n 0, 1) := by decide +kernel
theorem dX3_init_89 : decode cX3_init 89 = .ok (.bipush 7, 2) := by decide +kernel
theorem dX3_init_91 : decode cX3_init 91 = .ok (.newarray .int, 2) := by decide +kernel
theorem dX3_init_93 : decode cX3_init 93 = .ok (.putfield 49, 3) := by decide +kernel
theorem dX3_init_96 : decode cX3_init 96 = .ok (.aload_n 0, 1) := by decide +kernel
theorem dX3_init_97 : decode cX3_init 97 = .ok (.iconst 0, 1) := by decide +kernel
theorem dX3_init_98 : decode cX3_init 98 = .ok (.putfield 52, 3) := by decide +kernel
theorem dX3_init_101 : decode cX3_init 101 = .ok (.aload_n 0, 1) := by decide +kernel
theorem dX3_init_102 : decode cX3_init 102 = .ok (.iconst 0, 1) := by decide +kernel
theorem dX3_init_103 : decode cX3_init 103 = .ok (.putfield 55, 3) := by decide +kernel
theorem dX3_init_106 : decode cX3_init 106 = .ok (.aload_n 0, 1) := by decide +kernel
theorem dX3_init_107 : decode cX3_init 107 = .ok (.iconst 0, 1) := by decide +kernel
theorem dX3_init_108 : decode cX3_init 108 = .ok (.putfield 58, 3) := by decide +kernel
theorem dX3_init_111 : decode cX3_init 111 = .ok (.return_, 1) := by decide +kernel
theorem dX3_copyFrom_0 : decode cX3_copyFrom 0 = .ok (.aload_n 0, 1) := by decide +kernel
theorem dX3_copyFrom_1 : decode cX3_copyFrom 1 = .ok (.aload_n 1, 1) := by decide +kernel
theorem dX3_copyFrom_2 : decode cX3_copyFrom 2 = .ok (.getfield 9, 3) := by decide +kernel
theorem dX3_copyFrom_5 : decode cX3_copyFrom 5 = .ok (.putfield 9, 3) := by decide +kernel
theorem dX3_copyFrom_8 : decode cX3_copyFrom 8 = .ok (.aload_n 0, 1) := by decide +kernel
theorem dX3_copyFrom_9 : decode cX3_copyFrom 9 = .ok (.aload_n 1, 1) := by decide +kernel
theorem dX3_copyFrom_10 : decode cX3_copyFrom 10 = .ok (.getfield 15, 3) := by decide +kernel
theorem dX3_copyFrom_13 : decode cX3_copyFrom 13 = .ok (.putfield 15, 3) := by decide +kernel
theorem dX3_copyFrom_16 : decode cX3_copyFrom 16 = .ok (.aload_n 0, 1) := by decide +kernel
theorem dX3_copyFrom_17 : decode cX3_copyFrom 17 = .ok (.aload_n 1, 1) := by decide +kernel
theorem dX3_copyFrom_18 : decode cX3_copyFrom 18 = .ok (.getfield 18, 3) := by decide +kernel
theorem dX3_copyFrom_21 : decode cX3_copyFrom 21 = .ok (.putfield 18, 3) := by decide +kernel
theorem dX3_copyFrom_24 : decode cX3_copyFrom 24 = .ok (.aload_n 0, 1) := by decide +kernel
theorem dX3_copyFrom_25 : decode cX3_copyFrom 25 = .ok (.aload_n 1, 1) := by decide +kernel
theorem dX3_copyFrom_26 : decode cX3_copyFrom 26 = .ok (.getfield 21, 3) := by decide +kernel
theorem dX3_copyFrom_29 : decode cX3_copyFrom 29 = .ok (.putfield 21, 3) := by decide +kernel
theorem dX3_copyFrom_32 : decode cX3_copyFrom 32 = .ok (.aload_n 1, 1) := by decide +kernel
theorem dX3_copyFrom_33 : decode cX3_copyFrom 33 = .ok (.getfield 24, 3) := by decide +kernel
theorem dX3_copyFrom_36 : decode cX3_copyFrom 36 = .ok (.aload_n 0, 1) := by decide +kernel
theorem dX3_copyFrom_37 : decode cX3_copyFrom 37 = .ok (.getfield 24, 3) := by decide +kernel
theorem dX3_copyFrom_40 : decode cX3_copyFrom 40 = .ok (.invokestatic 61, 3) := by decide +kernel
theorem dX3_copyFrom_43 : decode cX3_copyFrom 43 = .ok (.aload_n 1, 1) := by decide +kernel
theorem dX3_copyFrom_44 : decode cX3_copyFrom 44 = .ok (.getfield 28, 3) := by decide +kernel
theorem dX3_copyFrom_47 : decode cX3_copyFrom 47 = .ok (.aload_n 0, 1) := by decide +kernel
theorem dX3_copyFrom_48 : decode cX3_copyFrom 48 = .ok (.getfield 28, 3) := by decide +kernel
theorem dX3_copyFrom_51 : decode cX3_copyFrom 51 = .ok (.invokestatic 61, 3) := by decide +kernel
theorem dX3_copyFrom_54 : decode cX3_copyFrom 54 = .ok (.aload_n 1, 1) := by decide +kernel
theorem dX3_copyFrom_55 : decode cX3_copyFrom 55 = .ok (.getfield 31, 3) := by decide +kernel
theorem dX3_copyFrom_58 : decode cX3_copyFrom 58 = .ok (.aload_n 0, 1) := by decide +kernel
theorem dX3_copyFrom_59 : decode cX3_copyFrom 59 = .ok (.getfield 31, 3) := by decide +kernel
theorem dX3_copyFrom_62 : decode cX3_copyFrom 62 = .ok (.invokestatic 61, 3) := by decide +kernel
theorem dX3_copyFrom_65 : decode cX3_copyFrom 65 = .ok (.aload_n 1, 1) := by decide +kernel
theorem dX3_copyFrom_66 : decode cX3_copyFrom 66 = .ok (.getfield 34, 3) := by decide +kernel
theorem dX3_copyFrom_69 : decode cX3_copyFrom 69 = .ok (.aload_n 0, 1) := by decide +kernel
theorem dX3_copyFrom_70 : decode cX3_copyFrom 70 = .ok (.getfield 34, 3) := by decide +kernel
theorem dX3_copyFrom_73 : decode cX3_copyFrom 73 = .ok (.invokestatic 61, 3) := by decide +kernel
theorem dX3_copyFrom_76 : decode cX3_copyFrom 76 = .ok (.aload_n 1, 1) := by decide +kernel
theorem dX3_copyFrom_77 : decode cX3_copyFrom 77 = .ok (.getfield 37, 3) := by decide +kernel
theorem dX3_copyFrom_80 : decode cX3_copyFrom 80 = .ok (.aload_n 0, 1) := by decide +kernel
theorem dX3_copyFrom_81 : decode cX3_copyFrom 81 = .ok (.getfield 37, 3) := by decide +kernel
theorem dX3_copyFrom_84 : decode cX3_copyFrom 84 = .ok (.invokestatic 61, 3) := by decide +kernel
theorem dX3_copyFrom_87 : decode cX3_copyFrom 87 = .ok (.aload_n 1, 1) := by decide +kernel
theorem dX3_copyFrom_88 : decode cX3_copyFrom 88 = .ok (.getfield 40, 3) := by decide +kernel
theorem dX3_copyFrom_91 : decode cX3_copyFrom 91 = .ok (.aload_n 0, 1) := by decide +kernel
theorem dX3_copyFrom_92 : decode cX3_copyFrom 92 = .ok (.getfield 40, 3) := by decide +kernel
theorem dX3_copyFrom_95 : decode cX3_copyFrom 95 = .ok (.invokestatic 61, 3) := by decide +kernel
theorem dX3_copyFrom_98 : decode cX3_copyFrom 98 = .ok (.aload_n 1, 1) := by decide +kernel
theorem dX3_copyFrom_99 : decode cX3_copyFrom 99 = .ok (.getfield 43, 3) := by decide +kernel
theorem dX3_copyFrom_102 : decode cX3_copyFrom 102 = .ok (.aload_n 0, 1) := by decide +kernel
theorem dX3_copyFrom_103 : decode cX3_copyFrom 103 = .ok (.getfield 43, 3) := by decide +kernel
theorem dX3_copyFrom_106 : decode cX3_copyFrom 106 = .ok (.invokestatic 61, 3) := by decide +kernel
theorem dX3_copyFrom_109 : decode cX3_copyFrom 109 = .ok (.aload_n 1, 1) := by decide +kernel
theorem dX3_copyFrom_110 : decode cX3_copyFrom 110 = .ok (.getfield 46, 3) := by decide +kernel
theorem dX3_copyFrom_113 : decode cX3_copyFrom 113 = .ok (.aload_n 0, 1) := by decide +kernel
theorem dX3_copyFrom_114 : decode cX3_copyFrom 114 = .ok (.getfield 46, 3) := by decide +kernel
theorem dX3_copyFrom_117 : decode cX3_copyFrom 117 = .ok (.invokestatic 61, 3) := by decide +kernel
theorem dX3_copyFrom_120 : decode cX3_copyFrom 120 = .ok (.aload_n 1, 1) := by decide +kernel
theorem dX3_copyFrom_121 : decode cX3_copyFrom 121 = .ok (.getfield 49, 3) := by decide +kernel
theorem dX3_copyFrom_124 : decode cX3_copyFrom 124 = .ok (.aload_n 0, 1) := by decide +kernel
theorem dX3_copyFrom_125 : decode cX3_copyFrom 125 = .ok (.getfield 49, 3) := by decide +kernel
theorem dX3_copyFrom_128 : decode cX3_copyFrom 128 = .ok (.invokestatic 61, 3) := by decide +kernel
theorem dX3_copyFrom_131 : decode cX3_copyFrom 131 = .ok (.aload_n 0, 1) := by decide +kernel
theorem dX3_copyFrom_132 : decode cX3_copyFrom 132 = .ok (.aload_n 1, 1) := by decide +kernel
theorem dX3_copyFrom_133 : decode cX3_copyFrom 133 = .ok (.getfield 52, 3) := by decide +kernel
theorem dX3_copyFrom_136 : decode cX3_copyFrom 136 = .ok (.putfield 52, 3) := by decide +kernel
theorem dX3_copyFrom_139 : decode cX3_copyFrom 139 = .ok (.aload_n 0, 1) := by decide +kernel
theorem dX3_copyFrom_140 : decode cX3_copyFrom 140 = .ok (.aload_n 1, 1) := by decide +kernel
theorem dX3_copyFrom_141 : decode cX3_copyFrom 141 = .ok (.getfield 55, 3) := by decide +kernel
theorem dX3_copyFrom_144 : decode cX3_copyFrom 144 = .ok (.putfield 55, 3) := by decide +kernel
theorem dX3_copyFrom_147 : decode cX3_copyFrom 147 = .ok (.aload_n 0, 1) := by decide +kernel
theorem dX3_copyFrom_148 : decode cX3_copyFrom 148 = .ok (.aload_n 1, 1) := by decide +kernel
theorem dX3_copyFrom_149 : decode cX3_copyFrom 149 = .ok (.getfield 58, 3) := by decide +kernel
theorem dX3_copyFrom_152 : decode cX3_copyFrom 152 = .ok (.putfield 58, 3) := by decide +kernel
theorem dX3_copyFrom_155 : decode cX3_copyFrom 155 = .ok (.return_, 1) := by decide +kernel
theorem dX3_readFrom_0 : decode cX3_readFrom 0 = .ok (.aload_n 0, 1) := by decide +kernel
theorem dX3_readFrom_1 : decode cX3_readFrom 1 = .ok (.iconst 0, 1) := by decide +kernel
theorem dX3_readFrom_2 : decode cX3_readFrom 2 = .ok (.putfield 9, 3) := by decide +kernel
theorem dX3_readFrom_5 : decode cX3_readFrom 5 = .ok (.aload_n 0, 1) := by decide +kernel
theorem dX3_readFrom_6 : decode cX3_readFrom 6 = .ok (.iconst 0, 1) := by decide +kernel
theorem dX3_readFrom_7 : decode cX3_readFrom 7 = .ok (.putfield 15, 3) := by decide +kernel
theorem dX3_readFrom_10 : decode cX3_readFrom 10 = .ok (.aload_n 0, 1) := by decide +kernel
theorem dX3_readFrom_11 : decode cX3_readFrom 11 = .ok (.iconst 0, 1) := by decide +kernel
theorem dX3_readFrom_12 : decode cX3_readFrom 12 = .ok (.putfield 18, 3) := by decide +kernel
theorem dX3_readFrom_15 : decode cX3_readFrom 15 = .ok (.aload_n 0, 1) := by decide +kernel
theorem dX3_readFrom_16 : decode cX3_readFrom 16 = .ok (.iconst 0, 1) := by decide +kernel
theorem dX3_readFrom_17 : decode cX3_readFrom 17 = .ok (.putfield 21, 3) := by decide +kernel
theorem dX3_readFrom_20 : decode cX3_readFrom 20 = .ok (.aload_n 1, 1) := by decide +kernel
theorem dX3_readFrom_21 : decode cX3_readFrom 21 = .ok (.invokevirtual 65, 3) := by decide +kernel
theorem dX3_readFrom_24 : decode cX3_readFrom 24 = .ok (.iconst 0, 1) := by decide +kernel
theorem dX3_readFrom_25 : decode cX3_readFrom 25 = .ok (.istore_n 2, 1) := by decide +kernel
theorem dX3_readFrom_26 : decode cX3_readFrom 26 = .ok (.iload_n 2, 1) := by decide +kernel
theorem dX3_readFrom_27 : decode cX3_readFrom 27 = .ok (.sipush 400, 3) := by decide +kernel
theorem dX3_readFrom_30 : decode cX3_readFrom 30 = .ok (.if_icmp .ge 21, 3) := by decide +kernel
theorem dX3_readFrom_33 : decode cX3_readFrom 33 = .ok (.aload_n 1, 1) := by decide +kernel
theorem dX3_readFrom_34 : decode cX3_readFrom 34 = .ok (.invokevirtual 70, 3) := by decide +kernel
theorem dX3_readFrom_37 : decode cX3_readFrom 37 = .ok (.ifCond .eq 14, 3) := by decide +kernel
theorem dX3_readFrom_40 : decode cX3_readFrom 40 = .ok (.aload_n 0, 1) := by decide +kernel
theorem dX3_readFrom_41 : decode cX3_readFrom 41 = .ok (.aload_n 1, 1) := by decide +kernel
theorem dX3_readFrom_42 : decode cX3_readFrom 42 = .ok (.invokevirtual 74, 3) := by decide +kernel
theorem dX3_readFrom_45 : decode cX3_readFrom 45 = .ok (.iinc 2 1, 3) := by decide +kernel
theorem dX3_readFrom_48 : decode cX3_readFrom 48 = .ok (.goto (-22), 3) := by decide +kernel
theorem dX3_readFrom_51 : decode cX3_readFrom 51 = .ok (.return_, 1) := by decide +kernel
theorem dX3_readClause_0 : decode cX3_readClause 0 = .ok (.aload_n 1, 1) := by decide +kernel
theorem dX3_readClause_1 : decode cX3_readClause 1 = .ok (.getfield 78, 3) := by decide +kernel
theorem dX3_readClause_4 : decode cX3_readClause 4 = .ok (.istore_n 2, 1) := by decide +kernel
theorem dX3_readClause_5 : decode cX3_readClause 5 = .ok (.aload_n 1, 1) := by decide +kernel
theorem dX3_readClause_6 : decode cX3_readClause 6 = .ok (.ldc 81, 2) := by decide +kernel
theorem dX3_readClause_8 : decode cX3_readClause 8 = .ok (.invokevirtual 82, 3) := by decide +kernel
theorem dX3_readClause_11 : decode cX3_readClause 11 = .ok (.ifCond .eq 12, 3) := by decide +kernel
theorem dX3_readClause_14 : decode cX3_readClause 14 = .ok (.aload_n 0, 1) := by decide +kernel
theorem dX3_readClause_15 : decode cX3_readClause 15 = .ok (.aload_n 1, 1) := by decide +kernel
theorem dX3_readClause_16 : decode cX3_readClause 16 = .ok (.iload_n 2, 1) := by decide +kernel
theorem dX3_readClause_17 : decode cX3_readClause 17 = .ok (.invokevirtual 86, 3) := by decide +kernel
theorem dX3_readClause_20 : decode cX3_readClause 20 = .ok (.goto 45, 3) := by decide +kernel
theorem dX3_readClause_23 : decode cX3_readClause 23 = .ok (.aload_n 1, 1) := by decide +kernel
theorem dX3_readClause_24 : decode cX3_readClause 24 = .ok (.ldc 90, 2) := by decide +kernel
theorem dX3_readClause_26 : decode cX3_readClause 26 = .ok (.invokevirtual 82, 3) := by decide +kernel
theorem dX3_readClause_29 : decode cX3_readClause 29 = .ok (.ifCond .eq 12, 3) := by decide +kernel
theorem dX3_readClause_32 : decode cX3_readClause 32 = .ok (.aload_n 0, 1) := by decide +kernel
theorem dX3_readClause_33 : decode cX3_readClause 33 = .ok (.aload_n 1, 1) := by decide +kernel
theorem dX3_readClause_34 : decode cX3_readClause 34 = .ok (.iload_n 2, 1) := by decide +kernel
theorem dX3_readClause_35 : decode cX3_readClause 35 = .ok (.invokevirtual 92, 3) := by decide +kernel
theorem dX3_readClause_38 : decode cX3_readClause 38 = .ok (.goto 27, 3) := by decide +kernel
theorem dX3_readClause_41 : decode cX3_readClause 41 = .ok (.aload_n 1, 1) := by decide +kernel
theorem dX3_readClause_42 : decode cX3_readClause 42 = .ok (.ldc 95, 2) := by decide +kernel
theorem dX3_readClause_44 : decode cX3_readClause 44 = .ok (.invokevirtual 82, 3) := by decide +kernel
theorem dX3_readClause_47 : decode cX3_readClause 47 = .ok (.ifCond .eq 12, 3) := by decide +kernel
theorem dX3_readClause_50 : decode cX3_readClause 50 = .ok (.aload_n 0, 1) := by decide +kernel
theorem dX3_readClause_51 : decode cX3_readClause 51 = .ok (.aload_n 1, 1) := by decide +kernel
theorem dX3_readClause_52 : decode cX3_readClause 52 = .ok (.iload_n 2, 1) := by decide +kernel
theorem dX3_readClause_53 : decode cX3_readClause 53 = .ok (.invokevirtual 96, 3) := by decide +kernel
theorem dX3_readClause_56 : decode cX3_readClause 56 = .ok (.goto 9, 3) := by decide +kernel
theorem dX3_readClause_59 : decode cX3_readClause 59 = .ok (.aload_n 1, 1) := by decide +kernel
theorem dX3_readClause_60 : decode cX3_readClause 60 = .ok (.iconst 1, 1) := by decide +kernel
theorem dX3_readClause_61 : decode cX3_readClause 61 = .ok (.iload_n 2, 1) := by decide +kernel
theorem dX3_readClause_62 : decode cX3_readClause 62 = .ok (.invokevirtual 99, 3) := by decide +kernel
theorem dX3_readClause_65 : decode cX3_readClause 65 = .ok (.return_, 1) := by decide +kernel
theorem dX3_readSun_0 : decode cX3_readSun 0 = .ok (.aload_n 0, 1) := by decide +kernel
theorem dX3_readSun_1 : decode cX3_readSun 1 = .ok (.getfield 18, 3) := by decide +kernel
theorem dX3_readSun_4 : decode cX3_readSun 4 = .ok (.ifCond .eq 9, 3) := by decide +kernel
theorem dX3_readSun_7 : decode cX3_readSun 7 = .ok (.aload_n 1, 1) := by decide +kernel
theorem dX3_readSun_8 : decode cX3_readSun 8 = .ok (.iconst 3, 1) := by decide +kernel
theorem dX3_readSun_9 : decode cX3_readSun 9 = .ok (.iload_n 2, 1) := by decide +kernel
theorem dX3_readSun_10 : decode cX3_readSun 10 = .ok (.invokevirtual 99, 3) := by decide +kernel
theorem dX3_readSun_13 : decode cX3_readSun 13 = .ok (.aload_n 0, 1) := by decide +kernel
theorem dX3_readSun_14 : decode cX3_readSun 14 = .ok (.aload_n 1, 1) := by decide +kernel
theorem dX3_readSun_15 : decode cX3_readSun 15 = .ok (.iconst 1, 1) := by decide +kernel
theorem dX3_readSun_16 : decode cX3_readSun 16 = .ok (.bipush 20, 2) := by decide +kernel
theorem dX3_readSun_18 : decode cX3_readSun 18 = .ok (.invokevirtual 103, 3) := by decide +kernel
theorem dX3_readSun_21 : decode cX3_readSun 21 = .ok (.putfield 18, 3) := by decide +kernel
theorem dX3_readSun_24 : decode cX3_readSun 24 = .ok (.aload_n 0, 1) := by decide +kernel
theorem dX3_readSun_25 : decode cX3_readSun 25 = .ok (.aload_n 1, 1) := by decide +kernel
theorem dX3_readSun_26 : decode cX3_readSun 26 = .ok (.iconst 0, 1) := by decide +kernel
theorem dX3_readSun_27 : decode cX3_readSun 27 = .ok (.bipush 20, 2) := by decide +kernel
theorem dX3_readSun_29 : decode cX3_readSun 29 = .ok (.invokevirtual 103, 3) := by decide +kernel
theorem dX3_readSun_32 : decode cX3_readSun 32 = .ok (.putfield 21, 3) := by decide +kernel
theorem dX3_readSun_35 : decode cX3_readSun 35 = .ok (.aload_n 1, 1) := by decide +kernel
theorem dX3_readSun_36 : decode cX3_readSun 36 = .ok (.invokevirtual 107, 3) := by decide +kernel
theorem dX3_readSun_39 : decode cX3_readSun 39 = .ok (.return_, 1) := by decide +kernel
theorem dX3_readYard_0 : decode cX3_readYard 0 = .ok (.aload_n 0, 1) := by decide +kernel
theorem dX3_readYard_1 : decode cX3_readYard 1 = .ok (.getfield 9, 3) := by decide +kernel
theorem dX3_readYard_4 : decode cX3_readYard 4 = .ok (.bipush 8, 2) := by decide +kernel
theorem dX3_readYard_6 : decode cX3_readYard 6 = .ok (.if_icmp .lt 10, 3) := by decide +kernel
theorem dX3_readYard_9 : decode cX3_readYard 9 = .ok (.aload_n 1, 1) := by decide +kernel
theorem dX3_readYard_10 : decode cX3_readYard 10 = .ok (.iconst 3, 1) := by decide +kernel
theorem dX3_readYard_11 : decode cX3_readYard 11 = .ok (.iload_n 2, 1) := by decide +kernel
theorem dX3_readYard_12 : decode cX3_readYard 12 = .ok (.invokevirtual 99, 3) := by decide +kernel
theorem dX3_readYard_15 : decode cX3_readYard 15 = .ok (.return_, 1) := by decide +kernel
theorem dX3_readYard_16 : decode cX3_readYard 16 = .ok (.aload_n 0, 1) := by decide +kernel
theorem dX3_readYard_17 : decode cX3_readYard 17 = .ok (.getfield 24, 3) := by decide +kernel
theorem dX3_readYard_20 : decode cX3_readYard 20 = .ok (.aload_n 0, 1) := by decide +kernel
theorem dX3_readYard_21 : decode cX3_readYard 21 = .ok (.getfield 9, 3) := by decide +kernel
theorem dX3_readYard_24 : decode cX3_readYard 24 = .ok (.aload_n 1, 1) := by decide +kernel
theorem dX3_readYard_25 : decode cX3_readYard 25 = .ok (.iconst 0, 1) := by decide +kernel
theorem dX3_readYard_26 : decode cX3_readYard 26 = .ok (.bipush 99, 2) := by decide +kernel
theorem dX3_readYard_28 : decode cX3_readYard 28 = .ok (.invokevirtual 103, 3) := by decide +kernel
theorem dX3_readYard_31 : decode cX3_readYard 31 = .ok (.invokestatic 110, 3) := by decide +kernel
theorem dX3_readYard_34 : decode cX3_readYard 34 = .ok (.aload_n 1, 1) := by decide +kernel
theorem dX3_readYard_35 : decode cX3_readYard 35 = .ok (.invokevirtual 107, 3) := by decide +kernel
theorem dX3_readYard_38 : decode cX3_readYard 38 = .ok (.aload_n 0, 1) := by decide +kernel
theorem dX3_readYard_39 : decode cX3_readYard 39 = .ok (.dup, 1) := by decide +kernel
theorem dX3_readYard_40 : decode cX3_readYard 40 = .ok (.getfield 9, 3) := by decide +kernel
theorem dX3_readYard_43 : decode cX3_readYard 43 = .ok (.iconst 1, 1) := by decide +kernel
theorem dX3_readYard_44 : decode cX3_readYard 44 = .ok (.iadd, 1) := by decide +kernel
theorem dX3_readYard_45 : decode cX3_readYard 45 = .ok (.putfield 9, 3) := by decide +kernel
theorem dX3_readYard_48 : decode cX3_readYard 48 = .ok (.return_, 1) := by decide +kernel
theorem dX3_readDead_0 : decode cX3_readDead 0 = .ok (.aload_n 0, 1) := by decide +kernel
theorem dX3_readDead_1 : decode cX3_readDead 1 = .ok (.getfield 15, 3) := by decide +kernel
theorem dX3_readDead_4 : decode cX3_readDead 4 = .ok (.bipush 7, 2) := by decide +kernel
theorem dX3_readDead_6 : decode cX3_readDead 6 = .ok (.if_icmp .lt 10, 3) := by decide +kernel
theorem dX3_readDead_9 : decode cX3_readDead 9 = .ok (.aload_n 1, 1) := by decide +kernel
theorem dX3_readDead_10 : decode cX3_readDead 10 = .ok (.iconst 3, 1) := by decide +kernel
theorem dX3_readDead_11 : decode cX3_readDead 11 = .ok (.iload_n 2, 1) := by decide +kernel
theorem dX3_readDead_12 : decode cX3_readDead 12 = .ok (.invokevirtual 99, 3) := by decide +kernel
theorem dX3_readDead_15 : decode cX3_readDead 15 = .ok (.return_, 1) := by decide +kernel
theorem dX3_readDead_16 : decode cX3_readDead 16 = .ok (.aload_n 0, 1) := by decide +kernel
theorem dX3_readDead_17 : decode cX3_readDead 17 = .ok (.getfield 28, 3) := by decide +kernel
theorem dX3_readDead_20 : decode cX3_readDead 20 = .ok (.aload_n 0, 1) := by decide +kernel
theorem dX3_readDead_21 : decode cX3_readDead 21 = .ok (.getfield 15, 3) := by decide +kernel
theorem dX3_readDead_24 : decode cX3_readDead 24 = .ok (.aload_n 1, 1) := by decide +kernel
theorem dX3_readDead_25 : decode cX3_readDead 25 = .ok (.iconst 0, 1) := by decide +kernel
theorem dX3_readDead_26 : decode cX3_readDead 26 = .ok (.bipush 99, 2) := by decide +kernel
theorem dX3_readDead_28 : decode cX3_readDead 28 = .ok (.invokevirtual 103, 3) := by decide +kernel
theorem dX3_readDead_31 : decode cX3_readDead 31 = .ok (.invokestatic 110, 3) := by decide +kernel
theorem dX3_readDead_34 : decode cX3_readDead 34 = .ok (.aload_n 0, 1) := by decide +kernel
theorem dX3_readDead_35 : decode cX3_readDead 35 = .ok (.getfield 31, 3) := by decide +kernel
theorem dX3_readDead_38 : decode cX3_readDead 38 = .ok (.aload_n 0, 1) := by decide +kernel
theorem dX3_readDead_39 : decode cX3_readDead 39 = .ok (.getfield 15, 3) := by decide +kernel
theorem dX3_readDead_42 : decode cX3_readDead 42 = .ok (.aload_n 1, 1) := by decide +kernel
theorem dX3_readDead_43 : decode cX3_readDead 43 = .ok (.iconst 0, 1) := by decide +kernel
theorem dX3_readDead_44 : decode cX3_readDead 44 = .ok (.sipush 999, 3) := by decide +kernel
theorem dX3_readDead_47 : decode cX3_readDead 47 = .ok (.invokevirtual 103, 3) := by decide +kernel
theorem dX3_readDead_50 : decode cX3_readDead 50 = .ok (.invokestatic 110, 3) := by decide +kernel
theorem dX3_readDead_53 : decode cX3_readDead 53 = .ok (.aload_n 0, 1) := by decide +kernel
theorem dX3_readDead_54 : decode cX3_readDead 54 = .ok (.getfield 34, 3) := by decide +kernel
theorem dX3_readDead_57 : decode cX3_readDead 57 = .ok (.aload_n 0, 1) := by decide +kernel
theorem dX3_readDead_58 : decode cX3_readDead 58 = .ok (.getfield 15, 3) := by decide +kernel
theorem dX3_readDead_61 : decode cX3_readDead 61 = .ok (.aload_n 1, 1) := by decide +kernel
theorem dX3_readDead_62 : decode cX3_readDead 62 = .ok (.iconst 0, 1) := by decide +kernel
theorem dX3_readDead_63 : decode cX3_readDead 63 = .ok (.bipush 9, 2) := by decide +kernel
theorem dX3_readDead_65 : decode cX3_readDead 65 = .ok (.invokevirtual 103, 3) := by decide +kernel
theorem dX3_readDead_68 : decode cX3_readDead 68 = .ok (.invokestatic 110, 3) := by decide +kernel
theorem dX3_readDead_71 : decode cX3_readDead 71 = .ok (.aload_n 1, 1) := by decide +kernel
theorem dX3_readDead_72 : decode cX3_readDead 72 = .ok (.invokevirtual 107, 3) := by decide +kernel
theorem dX3_readDead_75 : decode cX3_readDead 75 = .ok (.aload_n 0, 1) := by decide +kernel
theorem dX3_readDead_76 : decode cX3_readDead 76 = .ok (.dup, 1) := by decide +kernel
theorem dX3_readDead_77 : decode cX3_readDead 77 = .ok (.getfield 15, 3) := by decide +kernel
theorem dX3_readDead_80 : decode cX3_readDead 80 = .ok (.iconst 1, 1) := by decide +kernel
theorem dX3_readDead_81 : decode cX3_readDead 81 = .ok (.iadd, 1) := by decide +kernel
theorem dX3_readDead_82 : decode cX3_readDead 82 = .ok (.putfield 15, 3) := by decide +kernel
theorem dX3_readDead_85 : decode cX3_readDead 85 = .ok (.return_, 1) := by decide +kernel
theorem dX3_settle_0 : decode cX3_settle 0 = .ok (.aload_n 0, 1) := by decide +kernel
theorem dX3_settle_1 : decode cX3_settle 1 = .ok (.getfield 18, 3) := by decide +kernel
theorem dX3_settle_4 : decode cX3_settle 4 = .ok (.ifCond .ne 14, 3) := by decide +kernel
theorem dX3_settle_7 : decode cX3_settle 7 = .ok (.aload_n 0, 1) := by decide +kernel
theorem dX3_settle_8 : decode cX3_settle 8 = .ok (.bipush 6, 2) := by decide +kernel
theorem dX3_settle_10 : decode cX3_settle 10 = .ok (.putfield 18, 3) := by decide +kernel
theorem dX3_settle_13 : decode cX3_settle 13 = .ok (.aload_n 0, 1) := by decide +kernel
theorem dX3_settle_14 : decode cX3_settle 14 = .ok (.iconst 2, 1) := by decide +kernel
theorem dX3_settle_15 : decode cX3_settle 15 = .ok (.putfield 21, 3) := by decide +kernel
theorem dX3_settle_18 : decode cX3_settle 18 = .ok (.iconst 0, 1) := by decide +kernel
theorem dX3_settle_19 : decode cX3_settle 19 = .ok (.istore_n 1, 1) := by decide +kernel
theorem dX3_settle_20 : decode cX3_settle 20 = .ok (.iload_n 1, 1) := by decide +kernel
theorem dX3_settle_21 : decode cX3_settle 21 = .ok (.bipush 7, 2) := by decide +kernel
theorem dX3_settle_23 : decode cX3_settle 23 = .ok (.if_icmp .ge 61, 3) := by decide +kernel
theorem dX3_settle_26 : decode cX3_settle 26 = .ok (.aload_n 0, 1) := by decide +kernel
theorem dX3_settle_27 : decode cX3_settle 27 = .ok (.getfield 37, 3) := by decide +kernel
theorem dX3_settle_30 : decode cX3_settle 30 = .ok (.iload_n 1, 1) := by decide +kernel
theorem dX3_settle_31 : decode cX3_settle 31 = .ok (.iconst 0, 1) := by decide +kernel
theorem dX3_settle_32 : decode cX3_settle 32 = .ok (.invokestatic 110, 3) := by decide +kernel
theorem dX3_settle_35 : decode cX3_settle 35 = .ok (.aload_n 0, 1) := by decide +kernel
theorem dX3_settle_36 : decode cX3_settle 36 = .ok (.getfield 40, 3) := by decide +kernel
theorem dX3_settle_39 : decode cX3_settle 39 = .ok (.iload_n 1, 1) := by decide +kernel
theorem dX3_settle_40 : decode cX3_settle 40 = .ok (.bipush 9, 2) := by decide +kernel
theorem dX3_settle_42 : decode cX3_settle 42 = .ok (.invokestatic 110, 3) := by decide +kernel
theorem dX3_settle_45 : decode cX3_settle 45 = .ok (.aload_n 0, 1) := by decide +kernel
theorem dX3_settle_46 : decode cX3_settle 46 = .ok (.getfield 43, 3) := by decide +kernel
theorem dX3_settle_49 : decode cX3_settle 49 = .ok (.iload_n 1, 1) := by decide +kernel
theorem dX3_settle_50 : decode cX3_settle 50 = .ok (.iconst (-1), 1) := by decide +kernel
theorem dX3_settle_51 : decode cX3_settle 51 = .ok (.invokestatic 110, 3) := by decide +kernel
theorem dX3_settle_54 : decode cX3_settle 54 = .ok (.aload_n 0, 1) := by decide +kernel
theorem dX3_settle_55 : decode cX3_settle 55 = .ok (.getfield 46, 3) := by decide +kernel
theorem dX3_settle_58 : decode cX3_settle 58 = .ok (.iload_n 1, 1) := by decide +kernel
theorem dX3_settle_59 : decode cX3_settle 59 = .ok (.iload_n 1, 1) := by decide +kernel
theorem dX3_settle_60 : decode cX3_settle 60 = .ok (.invokestatic 110, 3) := by decide +kernel
theorem dX3_settle_63 : decode cX3_settle 63 = .ok (.aload_n 0, 1) := by decide +kernel
theorem dX3_settle_64 : decode cX3_settle 64 = .ok (.getfield 49, 3) := by decide +kernel
theorem dX3_settle_67 : decode cX3_settle 67 = .ok (.iload_n 1, 1) := by decide +kernel
theorem dX3_settle_68 : decode cX3_settle 68 = .ok (.aload_n 0, 1) := by decide +kernel
theorem dX3_settle_69 : decode cX3_settle 69 = .ok (.getfield 15, 3) := by decide +kernel
theorem dX3_settle_72 : decode cX3_settle 72 = .ok (.invokestatic 114, 3) := by decide +kernel
theorem dX3_settle_75 : decode cX3_settle 75 = .ok (.invokestatic 110, 3) := by decide +kernel
theorem dX3_settle_78 : decode cX3_settle 78 = .ok (.iinc 1 1, 3) := by decide +kernel
theorem dX3_settle_81 : decode cX3_settle 81 = .ok (.goto (-61), 3) := by decide +kernel
theorem dX3_settle_84 : decode cX3_settle 84 = .ok (.aload_n 0, 1) := by decide +kernel
theorem dX3_settle_85 : decode cX3_settle 85 = .ok (.iconst 0, 1) := by decide +kernel
theorem dX3_settle_86 : decode cX3_settle 86 = .ok (.putfield 52, 3) := by decide +kernel
theorem dX3_settle_89 : decode cX3_settle 89 = .ok (.aload_n 0, 1) := by decide +kernel
theorem dX3_settle_90 : decode cX3_settle 90 = .ok (.iconst 0, 1) := by decide +kernel
theorem dX3_settle_91 : decode cX3_settle 91 = .ok (.putfield 55, 3) := by decide +kernel
theorem dX3_settle_94 : decode cX3_settle 94 = .ok (.return_, 1) := by decide +kernel
theorem dX3_hasYard_0 : decode cX3_hasYard 0 = .ok (.iload_n 1, 1) := by decide +kernel
theorem dX3_hasYard_1 : decode cX3_hasYard 1 = .ok (.ifCond .lt 15, 3) := by decide +kernel
theorem dX3_hasYard_4 : decode cX3_hasYard 4 = .ok (.iload_n 1, 1) := by decide +kernel
theorem dX3_hasYard_5 : decode cX3_hasYard 5 = .ok (.aload_n 0, 1) := by decide +kernel
theorem dX3_hasYard_6 : decode cX3_hasYard 6 = .ok (.getfield 9, 3) := by decide +kernel
theorem dX3_hasYard_9 : decode cX3_hasYard 9 = .ok (.if_icmp .ge 7, 3) := by decide +kernel
theorem dX3_hasYard_12 : decode cX3_hasYard 12 = .ok (.iconst 1, 1) := by decide +kernel
theorem dX3_hasYard_13 : decode cX3_hasYard 13 = .ok (.goto 4, 3) := by decide +kernel
theorem dX3_hasYard_16 : decode cX3_hasYard 16 = .ok (.iconst 0, 1) := by decide +kernel
theorem dX3_hasYard_17 : decode cX3_hasYard 17 = .ok (.ireturn, 1) := by decide +kernel
theorem dX3_hasDead_0 : decode cX3_hasDead 0 = .ok (.iload_n 1, 1) := by decide +kernel
theorem dX3_hasDead_1 : decode cX3_hasDead 1 = .ok (.ifCond .lt 15, 3) := by decide +kernel
theorem dX3_hasDead_4 : decode cX3_hasDead 4 = .ok (.iload_n 1, 1) := by decide +kernel
theorem dX3_hasDead_5 : decode cX3_hasDead 5 = .ok (.aload_n 0, 1) := by decide +kernel
theorem dX3_hasDead_6 : decode cX3_hasDead 6 = .ok (.getfield 15, 3) := by decide +kernel
theorem dX3_hasDead_9 : decode cX3_hasDead 9 = .ok (.if_icmp .ge 7, 3) := by decide +kernel
theorem dX3_hasDead_12 : decode cX3_hasDead 12 = .ok (.iconst 1, 1) := by decide +kernel
theorem dX3_hasDead_13 : decode cX3_hasDead 13 = .ok (.goto 4, 3) := by decide +kernel
theorem dX3_hasDead_16 : decode cX3_hasDead 16 = .ok (.iconst 0, 1) := by decide +kernel
theorem dX3_hasDead_17 : decode cX3_hasDead 17 = .ok (.ireturn, 1) := by decide +kernel
theorem dX3_laid_0 : decode cX3_laid 0 = .ok (.iconst 0, 1) := by decide +kernel
theorem dX3_laid_1 : decode cX3_laid 1 = .ok (.istore_n 1, 1) := by decide +kernel
theorem dX3_laid_2 : decode cX3_laid 2 = .ok (.iconst 0, 1) := by decide +kernel
theorem dX3_laid_3 : decode cX3_laid 3 = .ok (.istore_n 2, 1) := by decide +kernel
theorem dX3_laid_4 : decode cX3_laid 4 = .ok (.iload_n 2, 1) := by decide +kernel
theorem dX3_laid_5 : decode cX3_laid 5 = .ok (.aload_n 0, 1) := by decide +kernel
theorem dX3_laid_6 : decode cX3_laid 6 = .ok (.getfield 15, 3) := by decide +kernel
theorem dX3_laid_9 : decode cX3_laid 9 = .ok (.if_icmp .ge 28, 3) := by decide +kernel
theorem dX3_laid_12 : decode cX3_laid 12 = .ok (.aload_n 0, 1) := by decide +kernel
theorem dX3_laid_13 : decode cX3_laid 13 = .ok (.getfield 43, 3) := by decide +kernel
theorem dX3_laid_16 : decode cX3_laid 16 = .ok (.iload_n 2, 1) := by decide +kernel
theorem dX3_laid_17 : decode cX3_laid 17 = .ok (.invokestatic 118, 3) := by decide +kernel
theorem dX3_laid_20 : decode cX3_laid 20 = .ok (.iconst (-1), 1) := by decide +kernel
theorem dX3_laid_21 : decode cX3_laid 21 = .ok (.if_icmp .eq 10, 3) := by decide +kernel
theorem dX3_laid_24 : decode cX3_laid 24 = .ok (.iload_n 1, 1) := by decide +kernel
theorem dX3_laid_25 : decode cX3_laid 25 = .ok (.iload_n 2, 1) := by decide +kernel
theorem dX3_laid_26 : decode cX3_laid 26 = .ok (.invokestatic 122, 3) := by decide +kernel
theorem dX3_laid_29 : decode cX3_laid 29 = .ok (.ior, 1) := by decide +kernel
theorem dX3_laid_30 : decode cX3_laid 30 = .ok (.istore_n 1, 1) := by decide +kernel
theorem dX3_laid_31 : decode cX3_laid 31 = .ok (.iinc 2 1, 3) := by decide +kernel
theorem dX3_laid_34 : decode cX3_laid 34 = .ok (.goto (-30), 3) := by decide +kernel
theorem dX3_laid_37 : decode cX3_laid 37 = .ok (.iload_n 1, 1) := by decide +kernel
theorem dX3_laid_38 : decode cX3_laid 38 = .ok (.ireturn, 1) := by decide +kernel
theorem dX3_waiting_0 : decode cX3_waiting 0 = .ok (.aload_n 0, 1) := by decide +kernel
theorem dX3_waiting_1 : decode cX3_waiting 1 = .ok (.getfield 15, 3) := by decide +kernel
theorem dX3_waiting_4 : decode cX3_waiting 4 = .ok (.invokestatic 114, 3) := by decide +kernel
theorem dX3_waiting_7 : decode cX3_waiting 7 = .ok (.aload_n 0, 1) := by decide +kernel
theorem dX3_waiting_8 : decode cX3_waiting 8 = .ok (.invokevirtual 125, 3) := by decide +kernel
theorem dX3_waiting_11 : decode cX3_waiting 11 = .ok (.iconst (-1), 1) := by decide +kernel
theorem dX3_waiting_12 : decode cX3_waiting 12 = .ok (.ixor, 1) := by decide +kernel
theorem dX3_waiting_13 : decode cX3_waiting 13 = .ok (.iand, 1) := by decide +kernel
theorem dX3_waiting_14 : decode cX3_waiting 14 = .ok (.aload_n 0, 1) := by decide +kernel
theorem dX3_waiting_15 : decode cX3_waiting 15 = .ok (.getfield 52, 3) := by decide +kernel
theorem dX3_waiting_18 : decode cX3_waiting 18 = .ok (.iconst (-1), 1) := by decide +kernel
theorem dX3_waiting_19 : decode cX3_waiting 19 = .ok (.ixor, 1) := by decide +kernel
theorem dX3_waiting_20 : decode cX3_waiting 20 = .ok (.iand, 1) := by decide +kernel
theorem dX3_waiting_21 : decode cX3_waiting 21 = .ok (.ireturn, 1) := by decide +kernel
theorem dX3_whoLiesIn_0 : decode cX3_whoLiesIn 0 = .ok (.iconst 0, 1) := by decide +kernel
theorem dX3_whoLiesIn_1 : decode cX3_whoLiesIn 1 = .ok (.istore_n 2, 1) := by decide +kernel
theorem dX3_whoLiesIn_2 : decode cX3_whoLiesIn 2 = .ok (.iload_n 2, 1) := by decide +kernel
theorem dX3_whoLiesIn_3 : decode cX3_whoLiesIn 3 = .ok (.aload_n 0, 1) := by decide +kernel
theorem dX3_whoLiesIn_4 : decode cX3_whoLiesIn 4 = .ok (.getfield 15, 3) := by decide +kernel
theorem dX3_whoLiesIn_7 : decode cX3_whoLiesIn 7 = .ok (.if_icmp .ge 23, 3) := by decide +kernel
theorem dX3_whoLiesIn_10 : decode cX3_whoLiesIn 10 = .ok (.aload_n 0, 1) := by decide +kernel
theorem dX3_whoLiesIn_11 : decode cX3_whoLiesIn 11 = .ok (.getfield 43, 3) := by decide +kernel
theorem dX3_whoLiesIn_14 : decode cX3_whoLiesIn 14 = .ok (.iload_n 2, 1) := by decide +kernel
theorem dX3_whoLiesIn_15 : decode cX3_whoLiesIn 15 = .ok (.invokestatic 118, 3) := by decide +kernel
theorem dX3_whoLiesIn_18 : decode cX3_whoLiesIn 18 = .ok (.iload_n 1, 1) := by decide +kernel
theorem dX3_whoLiesIn_19 : decode cX3_whoLiesIn 19 = .ok (.if_icmp .ne 5, 3) := by decide +kernel
theorem dX3_whoLiesIn_22 : decode cX3_whoLiesIn 22 = .ok (.iload_n 2, 1) := by decide +kernel
theorem dX3_whoLiesIn_23 : decode cX3_whoLiesIn 23 = .ok (.ireturn, 1) := by decide +kernel
theorem dX3_whoLiesIn_24 : decode cX3_whoLiesIn 24 = .ok (.iinc 2 1, 3) := by decide +kernel
theorem dX3_whoLiesIn_27 : decode cX3_whoLiesIn 27 = .ok (.goto (-25), 3) := by decide +kernel
theorem dX3_whoLiesIn_30 : decode cX3_whoLiesIn 30 = .ok (.iconst (-1), 1) := by decide +kernel
theorem dX3_whoLiesIn_31 : decode cX3_whoLiesIn 31 = .ok (.ireturn, 1) := by decide +kernel
theorem dX3_taken_0 : decode cX3_taken 0 = .ok (.iconst 0, 1) := by decide +kernel
theorem dX3_taken_1 : decode cX3_taken 1 = .ok (.istore_n 1, 1) := by decide +kernel
theorem dX3_taken_2 : decode cX3_taken 2 = .ok (.iconst 0, 1) := by decide +kernel
theorem dX3_taken_3 : decode cX3_taken 3 = .ok (.istore_n 2, 1) := by decide +kernel
theorem dX3_taken_4 : decode cX3_taken 4 = .ok (.iload_n 2, 1) := by decide +kernel
theorem dX3_taken_5 : decode cX3_taken 5 = .ok (.aload_n 0, 1) := by decide +kernel
theorem dX3_taken_6 : decode cX3_taken 6 = .ok (.getfield 15, 3) := by decide +kernel
theorem dX3_taken_9 : decode cX3_taken 9 = .ok (.if_icmp .ge 23, 3) := by decide +kernel
theorem dX3_taken_12 : decode cX3_taken 12 = .ok (.iload_n 1, 1) := by decide +kernel
theorem dX3_taken_13 : decode cX3_taken 13 = .ok (.aload_n 0, 1) := by decide +kernel
theorem dX3_taken_14 : decode cX3_taken 14 = .ok (.getfield 43, 3) := by decide +kernel
theorem dX3_taken_17 : decode cX3_taken 17 = .ok (.iload_n 2, 1) := by decide +kernel
theorem dX3_taken_18 : decode cX3_taken 18 = .ok (.invokestatic 118, 3) := by decide +kernel
theorem dX3_taken_21 : decode cX3_taken 21 = .ok (.invokestatic 122, 3) := by decide +kernel
theorem dX3_taken_24 : decode cX3_taken 24 = .ok (.ior, 1) := by decide +kernel
theorem dX3_taken_25 : decode cX3_taken 25 = .ok (.istore_n 1, 1) := by decide +kernel
theorem dX3_taken_26 : decode cX3_taken 26 = .ok (.iinc 2 1, 3) := by decide +kernel
theorem dX3_taken_29 : decode cX3_taken 29 = .ok (.goto (-25), 3) := by decide +kernel
theorem dX3_taken_32 : decode cX3_taken 32 = .ok (.iload_n 1, 1) := by decide +kernel
theorem dX3_taken_33 : decode cX3_taken 33 = .ok (.ireturn, 1) := by decide +kernel
theorem dX3_soft_0 : decode cX3_soft 0 = .ok (.iconst 0, 1) := by decide +kernel
theorem dX3_soft_1 : decode cX3_soft 1 = .ok (.istore_n 1, 1) := by decide +kernel
theorem dX3_soft_2 : decode cX3_soft 2 = .ok (.iconst 0, 1) := by decide +kernel
theorem dX3_soft_3 : decode cX3_soft 3 = .ok (.istore_n 2, 1) := by decide +kernel
theorem dX3_soft_4 : decode cX3_soft 4 = .ok (.iload_n 2, 1) := by decide +kernel
theorem dX3_soft_5 : decode cX3_soft 5 = .ok (.aload_n 0, 1) := by decide +kernel
theorem dX3_soft_6 : decode cX3_soft 6 = .ok (.getfield 9, 3) := by decide +kernel
theorem dX3_soft_9 : decode cX3_soft 9 = .ok (.if_icmp .ge 27, 3) := by decide +kernel
theorem dX3_soft_12 : decode cX3_soft 12 = .ok (.aload_n 0, 1) := by decide +kernel
theorem dX3_soft_13 : decode cX3_soft 13 = .ok (.getfield 24, 3) := by decide +kernel
theorem dX3_soft_16 : decode cX3_soft 16 = .ok (.iload_n 2, 1) := by decide +kernel
theorem dX3_soft_17 : decode cX3_soft 17 = .ok (.invokestatic 118, 3) := by decide +kernel
theorem dX3_soft_20 : decode cX3_soft 20 = .ok (.ifCond .ne 10, 3) := by decide +kernel
theorem dX3_soft_23 : decode cX3_soft 23 = .ok (.iload_n 1, 1) := by decide +kernel
theorem dX3_soft_24 : decode cX3_soft 24 = .ok (.iload_n 2, 1) := by decide +kernel
theorem dX3_soft_25 : decode cX3_soft 25 = .ok (.invokestatic 122, 3) := by decide +kernel
theorem dX3_soft_28 : decode cX3_soft 28 = .ok (.ior, 1) := by decide +kernel
theorem dX3_soft_29 : decode cX3_soft 29 = .ok (.istore_n 1, 1) := by decide +kernel
theorem dX3_soft_30 : decode cX3_soft 30 = .ok (.iinc 2 1, 3) := by decide +kernel
theorem dX3_soft_33 : decode cX3_soft 33 = .ok (.goto (-29), 3) := by decide +kernel
theorem dX3_soft_36 : decode cX3_soft 36 = .ok (.iload_n 1, 1) := by decide +kernel
theorem dX3_soft_37 : decode cX3_soft 37 = .ok (.ireturn, 1) := by decide +kernel
theorem dX3_softAndFree_0 : decode cX3_softAndFree 0 = .ok (.aload_n 0, 1) := by decide +kernel
theorem dX3_softAndFree_1 : decode cX3_softAndFree 1 = .ok (.invokevirtual 129, 3) := by decide +kernel
theorem dX3_softAndFree_4 : decode cX3_softAndFree 4 = .ok (.aload_n 0, 1) := by decide +kernel
theorem dX3_softAndFree_5 : decode cX3_softAndFree 5 = .ok (.invokevirtual 132, 3) := by decide +kernel
theorem dX3_softAndFree_8 : decode cX3_softAndFree 8 = .ok (.iconst (-1), 1) := by decide +kernel
theorem dX3_softAndFree_9 : decode cX3_softAndFree 9 = .ok (.ixor, 1) := by decide +kernel
theorem dX3_softAndFree_10 : decode cX3_softAndFree 10 = .ok (.iand, 1) := by decide +kernel
theorem dX3_softAndFree_11 : decode cX3_softAndFree 11 = .ok (.ireturn, 1) := by decide +kernel
theorem dX3_boardless_0 : decode cX3_boardless 0 = .ok (.iconst 0, 1) := by decide +kernel
theorem dX3_boardless_1 : decode cX3_boardless 1 = .ok (.istore_n 1, 1) := by decide +kernel
theorem dX3_boardless_2 : decode cX3_boardless 2 = .ok (.iconst 0, 1) := by decide +kernel
theorem dX3_boardless_3 : decode cX3_boardless 3 = .ok (.istore_n 2, 1) := by decide +kernel
theorem dX3_boardless_4 : decode cX3_boardless 4 = .ok (.iload_n 2, 1) := by decide +kernel
theorem dX3_boardless_5 : decode cX3_boardless 5 = .ok (.aload_n 0, 1) := by decide +kernel
theorem dX3_boardless_6 : decode cX3_boardless 6 = .ok (.getfield 15, 3) := by decide +kernel
theorem dX3_boardless_9 : decode cX3_boardless 9 = .ok (.if_icmp .ge 27, 3) := by decide +kernel
theorem dX3_boardless_12 : decode cX3_boardless 12 = .ok (.aload_n 0, 1) := by decide +kernel
theorem dX3_boardless_13 : decode cX3_boardless 13 = .ok (.getfield 40, 3) := by decide +kernel
theorem dX3_boardless_16 : decode cX3_boardless 16 = .ok (.iload_n 2, 1) := by decide +kernel
theorem dX3_boardless_17 : decode cX3_boardless 17 = .ok (.invokestatic 118, 3) := by decide +kernel
theorem dX3_boardless_20 : decode cX3_boardless 20 = .ok (.ifCond .ne 10, 3) := by decide +kernel
theorem dX3_boardless_23 : decode cX3_boardless 23 = .ok (.iload_n 1, 1) := by decide +kernel
theorem dX3_boardless_24 : decode cX3_boardless 24 = .ok (.iload_n 2, 1) := by decide +kernel
theorem dX3_boardless_25 : decode cX3_boardless 25 = .ok (.invokestatic 122, 3) := by decide +kernel
theorem dX3_boardless_28 : decode cX3_boardless 28 = .ok (.ior, 1) := by decide +kernel
theorem dX3_boardless_29 : decode cX3_boardless 29 = .ok (.istore_n 1, 1) := by decide +kernel
theorem dX3_boardless_30 : decode cX3_boardless 30 = .ok (.iinc 2 1, 3) := by decide +kernel
theorem dX3_boardless_33 : decode cX3_boardless 33 = .ok (.goto (-29), 3) := by decide +kernel
theorem dX3_boardless_36 : decode cX3_boardless 36 = .ok (.iload_n 1, 1) := by decide +kernel
theorem dX3_boardless_37 : decode cX3_boardless 37 = .ok (.aload_n 0, 1) := by decide +kernel
theorem dX3_boardless_38 : decode cX3_boardless 38 = .ok (.invokevirtual 135, 3) := by decide +kernel
theorem dX3_boardless_41 : decode cX3_boardless 41 = .ok (.iand, 1) := by decide +kernel
theorem dX3_boardless_42 : decode cX3_boardless 42 = .ok (.ireturn, 1) := by decide +kernel
theorem dX3_ranksOf_0 : decode cX3_ranksOf 0 = .ok (.iconst 0, 1) := by decide +kernel
theorem dX3_ranksOf_1 : decode cX3_ranksOf 1 = .ok (.istore_n 2, 1) := by decide +kernel
theorem dX3_ranksOf_2 : decode cX3_ranksOf 2 = .ok (.iconst 0, 1) := by decide +kernel
theorem dX3_ranksOf_3 : decode cX3_ranksOf 3 = .ok (.istore_n 3, 1) := by decide +kernel
theorem dX3_ranksOf_4 : decode cX3_ranksOf 4 = .ok (.iload_n 3, 1) := by decide +kernel
theorem dX3_ranksOf_5 : decode cX3_ranksOf 5 = .ok (.aload_n 0, 1) := by decide +kernel
theorem dX3_ranksOf_6 : decode cX3_ranksOf 6 = .ok (.getfield 15, 3) := by decide +kernel
theorem dX3_ranksOf_9 : decode cX3_ranksOf 9 = .ok (.if_icmp .ge 28, 3) := by decide +kernel
theorem dX3_ranksOf_12 : decode cX3_ranksOf 12 = .ok (.iload_n 1, 1) := by decide +kernel
theorem dX3_ranksOf_13 : decode cX3_ranksOf 13 = .ok (.iload_n 3, 1) := by decide +kernel
theorem dX3_ranksOf_14 : decode cX3_ranksOf 14 = .ok (.invokestatic 138, 3) := by decide +kernel
theorem dX3_ranksOf_17 : decode cX3_ranksOf 17 = .ok (.ifCond .eq 14, 3) := by decide +kernel
theorem dX3_ranksOf_20 : decode cX3_ranksOf 20 = .ok (.iload_n 2, 1) := by decide +kernel
theorem dX3_ranksOf_21 : decode cX3_ranksOf 21 = .ok (.aload_n 0, 1) := by decide +kernel
theorem dX3_ranksOf_22 : decode cX3_ranksOf 22 = .ok (.getfield 28, 3) := by decide +kernel
theorem dX3_ranksOf_25 : decode cX3_ranksOf 25 = .ok (.iload_n 3, 1) := by decide +kernel
theorem dX3_ranksOf_26 : decode cX3_ranksOf 26 = .ok (.invokestatic 118, 3) := by decide +kernel
theorem dX3_ranksOf_29 : decode cX3_ranksOf 29 = .ok (.iadd, 1) := by decide +kernel
theorem dX3_ranksOf_30 : decode cX3_ranksOf 30 = .ok (.istore_n 2, 1) := by decide +kernel
theorem dX3_ranksOf_31 : decode cX3_ranksOf 31 = .ok (.iinc 3 1, 3) := by decide +kernel
theorem dX3_ranksOf_34 : decode cX3_ranksOf 34 = .ok (.goto (-30), 3) := by decide +kernel
theorem dX3_ranksOf_37 : decode cX3_ranksOf 37 = .ok (.iload_n 2, 1) := by decide +kernel
theorem dX3_ranksOf_38 : decode cX3_ranksOf 38 = .ok (.ireturn, 1) := by decide +kernel
theorem dX3_worth_0 : decode cX3_worth 0 = .ok (.iload_n 1, 1) := by decide +kernel
theorem dX3_worth_1 : decode cX3_worth 1 = .ok (.tableswitch 70 0 3 #[31, 40, 49, 58], 31) := by decide +kernel
theorem dX3_worth_32 : decode cX3_worth 32 = .ok (.aload_n 0, 1) := by decide +kernel
theorem dX3_worth_33 : decode cX3_worth 33 = .ok (.getfield 28, 3) := by decide +kernel
theorem dX3_worth_36 : decode cX3_worth 36 = .ok (.iload_n 2, 1) := by decide +kernel
theorem dX3_worth_37 : decode cX3_worth 37 = .ok (.invokestatic 118, 3) := by decide +kernel
theorem dX3_worth_40 : decode cX3_worth 40 = .ok (.ireturn, 1) := by decide +kernel
theorem dX3_worth_41 : decode cX3_worth 41 = .ok (.aload_n 0, 1) := by decide +kernel
theorem dX3_worth_42 : decode cX3_worth 42 = .ok (.getfield 31, 3) := by decide +kernel
theorem dX3_worth_45 : decode cX3_worth 45 = .ok (.iload_n 2, 1) := by decide +kernel
theorem dX3_worth_46 : decode cX3_worth 46 = .ok (.invokestatic 118, 3) := by decide +kernel
theorem dX3_worth_49 : decode cX3_worth 49 = .ok (.ireturn, 1) := by decide +kernel
theorem dX3_worth_50 : decode cX3_worth 50 = .ok (.aload_n 0, 1) := by decide +kernel
theorem dX3_worth_51 : decode cX3_worth 51 = .ok (.getfield 37, 3) := by decide +kernel
theorem dX3_worth_54 : decode cX3_worth 54 = .ok (.iload_n 2, 1) := by decide +kernel
theorem dX3_worth_55 : decode cX3_worth 55 = .ok (.invokestatic 118, 3) := by decide +kernel
theorem dX3_worth_58 : decode cX3_worth 58 = .ok (.ireturn, 1) := by decide +kernel
theorem dX3_worth_59 : decode cX3_worth 59 = .ok (.bipush 9, 2) := by decide +kernel
theorem dX3_worth_61 : decode cX3_worth 61 = .ok (.aload_n 0, 1) := by decide +kernel
theorem dX3_worth_62 : decode cX3_worth 62 = .ok (.getfield 34, 3) := by decide +kernel
theorem dX3_worth_65 : decode cX3_worth 65 = .ok (.iload_n 2, 1) := by decide +kernel
theorem dX3_worth_66 : decode cX3_worth 66 = .ok (.invokestatic 118, 3) := by decide +kernel
theorem dX3_worth_69 : decode cX3_worth 69 = .ok (.isub, 1) := by decide +kernel
theorem dX3_worth_70 : decode cX3_worth 70 = .ok (.ireturn, 1) := by decide +kernel
theorem dX3_worth_71 : decode cX3_worth 71 = .ok (.iconst 0, 1) := by decide +kernel
theorem dX3_worth_72 : decode cX3_worth 72 = .ok (.ireturn, 1) := by decide +kernel
theorem dX3_claim_0 : decode cX3_claim 0 = .ok (.lconst 0, 1) := by decide +kernel
theorem dX3_claim_1 : decode cX3_claim 1 = .ok (.lstore_n 3, 1) := by decide +kernel
theorem dX3_claim_2 : decode cX3_claim 2 = .ok (.iconst 0, 1) := by decide +kernel
theorem dX3_claim_3 : decode cX3_claim 3 = .ok (.istore 5, 2) := by decide +kernel
theorem dX3_claim_5 : decode cX3_claim 5 = .ok (.iload 5, 2) := by decide +kernel
theorem dX3_claim_7 : decode cX3_claim 7 = .ok (.aload_n 1, 1) := by decide +kernel
theorem dX3_claim_8 : decode cX3_claim 8 = .ok (.getfield 142, 3) := by decide +kernel
theorem dX3_claim_11 : decode cX3_claim 11 = .ok (.if_icmp .ge 31, 3) := by decide +kernel
end
section
theorem dX3_claim_14 : decode cX3_claim 14 = .ok (.lload_n 3, 1) := by decide +kernel
theorem dX3_claim_15 : decode cX3_claim 15 = .ok (.ldc2_w 147, 3) := by decide +kernel
theorem dX3_claim_18 : decode cX3_claim 18 = .ok (.lmul, 1) := by decide +kernel
theorem dX3_claim_19 : decode cX3_claim 19 = .ok (.aload_n 0, 1) := by decide +kernel
theorem dX3_claim_20 : decode cX3_claim 20 = .ok (.aload_n 1, 1) := by decide +kernel
theorem dX3_claim_21 : decode cX3_claim 21 = .ok (.getfield 149, 3) := by decide +kernel
theorem dX3_claim_24 : decode cX3_claim 24 = .ok (.iload 5, 2) := by decide +kernel
theorem dX3_claim_26 : decode cX3_claim 26 = .ok (.invokestatic 118, 3) := by decide +kernel
theorem dX3_claim_29 : decode cX3_claim 29 = .ok (.iload_n 2, 1) := by decide +kernel
theorem dX3_claim_30 : decode cX3_claim 30 = .ok (.invokevirtual 152, 3) := by decide +kernel
theorem dX3_claim_33 : decode cX3_claim 33 = .ok (.i2l, 1) := by decide +kernel
theorem dX3_claim_34 : decode cX3_claim 34 = .ok (.ladd, 1) := by decide +kernel
theorem dX3_claim_35 : decode cX3_claim 35 = .ok (.lstore_n 3, 1) := by decide +kernel
theorem dX3_claim_36 : decode cX3_claim 36 = .ok (.iinc 5 1, 3) := by decide +kernel
theorem dX3_claim_39 : decode cX3_claim 39 = .ok (.goto (-34), 3) := by decide +kernel
theorem dX3_claim_42 : decode cX3_claim 42 = .ok (.lload_n 3, 1) := by decide +kernel
theorem dX3_claim_43 : decode cX3_claim 43 = .ok (.ldc2_w 155, 3) := by decide +kernel
theorem dX3_claim_46 : decode cX3_claim 46 = .ok (.lmul, 1) := by decide +kernel
theorem dX3_claim_47 : decode cX3_claim 47 = .ok (.ldc2_w 157, 3) := by decide +kernel
theorem dX3_claim_50 : decode cX3_claim 50 = .ok (.ladd, 1) := by decide +kernel
theorem dX3_claim_51 : decode cX3_claim 51 = .ok (.iload_n 2, 1) := by decide +kernel
theorem dX3_claim_52 : decode cX3_claim 52 = .ok (.i2l, 1) := by decide +kernel
theorem dX3_claim_53 : decode cX3_claim 53 = .ok (.lsub, 1) := by decide +kernel
theorem dX3_claim_54 : decode cX3_claim 54 = .ok (.lreturn, 1) := by decide +kernel
theorem dX3_urgentClaim_0 : decode cX3_urgentClaim 0 = .ok (.aload_n 0, 1) := by decide +kernel
theorem dX3_urgentClaim_1 : decode cX3_urgentClaim 1 = .ok (.aload_n 1, 1) := by decide +kernel
theorem dX3_urgentClaim_2 : decode cX3_urgentClaim 2 = .ok (.iload_n 2, 1) := by decide +kernel
theorem dX3_urgentClaim_3 : decode cX3_urgentClaim 3 = .ok (.invokevirtual 159, 3) := by decide +kernel
theorem dX3_urgentClaim_6 : decode cX3_urgentClaim 6 = .ok (.lstore_n 3, 1) := by decide +kernel
theorem dX3_urgentClaim_7 : decode cX3_urgentClaim 7 = .ok (.aload_n 0, 1) := by decide +kernel
theorem dX3_urgentClaim_8 : decode cX3_urgentClaim 8 = .ok (.getfield 40, 3) := by decide +kernel
theorem dX3_urgentClaim_11 : decode cX3_urgentClaim 11 = .ok (.iload_n 2, 1) := by decide +kernel
theorem dX3_urgentClaim_12 : decode cX3_urgentClaim 12 = .ok (.invokestatic 118, 3) := by decide +kernel
theorem dX3_urgentClaim_15 : decode cX3_urgentClaim 15 = .ok (.ifCond .ne 11, 3) := by decide +kernel
theorem dX3_urgentClaim_18 : decode cX3_urgentClaim 18 = .ok (.lload_n 3, 1) := by decide +kernel
theorem dX3_urgentClaim_19 : decode cX3_urgentClaim 19 = .ok (.ldc2_w 163, 3) := by decide +kernel
theorem dX3_urgentClaim_22 : decode cX3_urgentClaim 22 = .ok (.ladd, 1) := by decide +kernel
theorem dX3_urgentClaim_23 : decode cX3_urgentClaim 23 = .ok (.goto 4, 3) := by decide +kernel
theorem dX3_urgentClaim_26 : decode cX3_urgentClaim 26 = .ok (.lload_n 3, 1) := by decide +kernel
theorem dX3_urgentClaim_27 : decode cX3_urgentClaim 27 = .ok (.lreturn, 1) := by decide +kernel
theorem dX3_placeAmong_0 : decode cX3_placeAmong 0 = .ok (.aload_n 0, 1) := by decide +kernel
theorem dX3_placeAmong_1 : decode cX3_placeAmong 1 = .ok (.aload_n 1, 1) := by decide +kernel
theorem dX3_placeAmong_2 : decode cX3_placeAmong 2 = .ok (.iload_n 3, 1) := by decide +kernel
theorem dX3_placeAmong_3 : decode cX3_placeAmong 3 = .ok (.invokevirtual 165, 3) := by decide +kernel
theorem dX3_placeAmong_6 : decode cX3_placeAmong 6 = .ok (.lstore 4, 2) := by decide +kernel
theorem dX3_placeAmong_8 : decode cX3_placeAmong 8 = .ok (.iconst 0, 1) := by decide +kernel
theorem dX3_placeAmong_9 : decode cX3_placeAmong 9 = .ok (.istore 6, 2) := by decide +kernel
theorem dX3_placeAmong_11 : decode cX3_placeAmong 11 = .ok (.iconst 0, 1) := by decide +kernel
theorem dX3_placeAmong_12 : decode cX3_placeAmong 12 = .ok (.istore 7, 2) := by decide +kernel
theorem dX3_placeAmong_14 : decode cX3_placeAmong 14 = .ok (.iload 7, 2) := by decide +kernel
theorem dX3_placeAmong_16 : decode cX3_placeAmong 16 = .ok (.aload_n 0, 1) := by decide +kernel
theorem dX3_placeAmong_17 : decode cX3_placeAmong 17 = .ok (.getfield 15, 3) := by decide +kernel
theorem dX3_placeAmong_20 : decode cX3_placeAmong 20 = .ok (.if_icmp .ge 34, 3) := by decide +kernel
theorem dX3_placeAmong_23 : decode cX3_placeAmong 23 = .ok (.iload_n 2, 1) := by decide +kernel
theorem dX3_placeAmong_24 : decode cX3_placeAmong 24 = .ok (.iload 7, 2) := by decide +kernel
theorem dX3_placeAmong_26 : decode cX3_placeAmong 26 = .ok (.invokestatic 138, 3) := by decide +kernel
theorem dX3_placeAmong_29 : decode cX3_placeAmong 29 = .ok (.ifCond .eq 19, 3) := by decide +kernel
theorem dX3_placeAmong_32 : decode cX3_placeAmong 32 = .ok (.aload_n 0, 1) := by decide +kernel
theorem dX3_placeAmong_33 : decode cX3_placeAmong 33 = .ok (.aload_n 1, 1) := by decide +kernel
theorem dX3_placeAmong_34 : decode cX3_placeAmong 34 = .ok (.iload 7, 2) := by decide +kernel
theorem dX3_placeAmong_36 : decode cX3_placeAmong 36 = .ok (.invokevirtual 165, 3) := by decide +kernel
theorem dX3_placeAmong_39 : decode cX3_placeAmong 39 = .ok (.lload 4, 2) := by decide +kernel
theorem dX3_placeAmong_41 : decode cX3_placeAmong 41 = .ok (.lcmp, 1) := by decide +kernel
theorem dX3_placeAmong_42 : decode cX3_placeAmong 42 = .ok (.ifCond .le 6, 3) := by decide +kernel
theorem dX3_placeAmong_45 : decode cX3_placeAmong 45 = .ok (.iinc 6 1, 3) := by decide +kernel
theorem dX3_placeAmong_48 : decode cX3_placeAmong 48 = .ok (.iinc 7 1, 3) := by decide +kernel
theorem dX3_placeAmong_51 : decode cX3_placeAmong 51 = .ok (.goto (-37), 3) := by decide +kernel
theorem dX3_placeAmong_54 : decode cX3_placeAmong 54 = .ok (.iload 6, 2) := by decide +kernel
theorem dX3_placeAmong_56 : decode cX3_placeAmong 56 = .ok (.ireturn, 1) := by decide +kernel
theorem dX3_firstAmong_0 : decode cX3_firstAmong 0 = .ok (.iconst (-1), 1) := by decide +kernel
theorem dX3_firstAmong_1 : decode cX3_firstAmong 1 = .ok (.istore_n 3, 1) := by decide +kernel
theorem dX3_firstAmong_2 : decode cX3_firstAmong 2 = .ok (.ldc2_w 168, 3) := by decide +kernel
theorem dX3_firstAmong_5 : decode cX3_firstAmong 5 = .ok (.lstore 4, 2) := by decide +kernel
theorem dX3_firstAmong_7 : decode cX3_firstAmong 7 = .ok (.iconst 0, 1) := by decide +kernel
theorem dX3_firstAmong_8 : decode cX3_firstAmong 8 = .ok (.istore 6, 2) := by decide +kernel
theorem dX3_firstAmong_10 : decode cX3_firstAmong 10 = .ok (.iload 6, 2) := by decide +kernel
theorem dX3_firstAmong_12 : decode cX3_firstAmong 12 = .ok (.aload_n 0, 1) := by decide +kernel
theorem dX3_firstAmong_13 : decode cX3_firstAmong 13 = .ok (.getfield 15, 3) := by decide +kernel
theorem dX3_firstAmong_16 : decode cX3_firstAmong 16 = .ok (.if_icmp .ge 45, 3) := by decide +kernel
theorem dX3_firstAmong_19 : decode cX3_firstAmong 19 = .ok (.iload_n 2, 1) := by decide +kernel
theorem dX3_firstAmong_20 : decode cX3_firstAmong 20 = .ok (.iload 6, 2) := by decide +kernel
theorem dX3_firstAmong_22 : decode cX3_firstAmong 22 = .ok (.invokestatic 138, 3) := by decide +kernel
theorem dX3_firstAmong_25 : decode cX3_firstAmong 25 = .ok (.ifCond .ne 6, 3) := by decide +kernel
theorem dX3_firstAmong_28 : decode cX3_firstAmong 28 = .ok (.goto 27, 3) := by decide +kernel
theorem dX3_firstAmong_31 : decode cX3_firstAmong 31 = .ok (.aload_n 0, 1) := by decide +kernel
theorem dX3_firstAmong_32 : decode cX3_firstAmong 32 = .ok (.aload_n 1, 1) := by decide +kernel
theorem dX3_firstAmong_33 : decode cX3_firstAmong 33 = .ok (.iload 6, 2) := by decide +kernel
theorem dX3_firstAmong_35 : decode cX3_firstAmong 35 = .ok (.invokevirtual 165, 3) := by decide +kernel
theorem dX3_firstAmong_38 : decode cX3_firstAmong 38 = .ok (.lstore 7, 2) := by decide +kernel
theorem dX3_firstAmong_40 : decode cX3_firstAmong 40 = .ok (.lload 7, 2) := by decide +kernel
theorem dX3_firstAmong_42 : decode cX3_firstAmong 42 = .ok (.lload 4, 2) := by decide +kernel
theorem dX3_firstAmong_44 : decode cX3_firstAmong 44 = .ok (.lcmp, 1) := by decide +kernel
theorem dX3_firstAmong_45 : decode cX3_firstAmong 45 = .ok (.ifCond .le 10, 3) := by decide +kernel
theorem dX3_firstAmong_48 : decode cX3_firstAmong 48 = .ok (.lload 7, 2) := by decide +kernel
theorem dX3_firstAmong_50 : decode cX3_firstAmong 50 = .ok (.lstore 4, 2) := by decide +kernel
theorem dX3_firstAmong_52 : decode cX3_firstAmong 52 = .ok (.iload 6, 2) := by decide +kernel
theorem dX3_firstAmong_54 : decode cX3_firstAmong 54 = .ok (.istore_n 3, 1) := by decide +kernel
theorem dX3_firstAmong_55 : decode cX3_firstAmong 55 = .ok (.iinc 6 1, 3) := by decide +kernel
theorem dX3_firstAmong_58 : decode cX3_firstAmong 58 = .ok (.goto (-48), 3) := by decide +kernel
theorem dX3_firstAmong_61 : decode cX3_firstAmong 61 = .ok (.iload_n 3, 1) := by decide +kernel
theorem dX3_firstAmong_62 : decode cX3_firstAmong 62 = .ok (.ireturn, 1) := by decide +kernel
theorem dX3_thawOf_0 : decode cX3_thawOf 0 = .ok (.iconst 0, 1) := by decide +kernel
theorem dX3_thawOf_1 : decode cX3_thawOf 1 = .ok (.iload_n 2, 1) := by decide +kernel
theorem dX3_thawOf_2 : decode cX3_thawOf 2 = .ok (.aload_n 0, 1) := by decide +kernel
theorem dX3_thawOf_3 : decode cX3_thawOf 3 = .ok (.getfield 18, 3) := by decide +kernel
theorem dX3_thawOf_6 : decode cX3_thawOf 6 = .ok (.imul, 1) := by decide +kernel
theorem dX3_thawOf_7 : decode cX3_thawOf 7 = .ok (.aload_n 0, 1) := by decide +kernel
theorem dX3_thawOf_8 : decode cX3_thawOf 8 = .ok (.getfield 21, 3) := by decide +kernel
theorem dX3_thawOf_11 : decode cX3_thawOf 11 = .ok (.iload_n 1, 1) := by decide +kernel
theorem dX3_thawOf_12 : decode cX3_thawOf 12 = .ok (.imul, 1) := by decide +kernel
theorem dX3_thawOf_13 : decode cX3_thawOf 13 = .ok (.isub, 1) := by decide +kernel
theorem dX3_thawOf_14 : decode cX3_thawOf 14 = .ok (.invokestatic 170, 3) := by decide +kernel
theorem dX3_thawOf_17 : decode cX3_thawOf 17 = .ok (.ireturn, 1) := by decide +kernel
theorem dX3_passDay_0 : decode cX3_passDay 0 = .ok (.aload_n 0, 1) := by decide +kernel
theorem dX3_passDay_1 : decode cX3_passDay 1 = .ok (.invokevirtual 132, 3) := by decide +kernel
theorem dX3_passDay_4 : decode cX3_passDay 4 = .ok (.istore_n 2, 1) := by decide +kernel
theorem dX3_passDay_5 : decode cX3_passDay 5 = .ok (.iconst 0, 1) := by decide +kernel
theorem dX3_passDay_6 : decode cX3_passDay 6 = .ok (.istore_n 3, 1) := by decide +kernel
theorem dX3_passDay_7 : decode cX3_passDay 7 = .ok (.iload_n 3, 1) := by decide +kernel
theorem dX3_passDay_8 : decode cX3_passDay 8 = .ok (.aload_n 0, 1) := by decide +kernel
theorem dX3_passDay_9 : decode cX3_passDay 9 = .ok (.getfield 9, 3) := by decide +kernel
theorem dX3_passDay_12 : decode cX3_passDay 12 = .ok (.if_icmp .ge 73, 3) := by decide +kernel
theorem dX3_passDay_15 : decode cX3_passDay 15 = .ok (.aload_n 0, 1) := by decide +kernel
theorem dX3_passDay_16 : decode cX3_passDay 16 = .ok (.getfield 24, 3) := by decide +kernel
theorem dX3_passDay_19 : decode cX3_passDay 19 = .ok (.iload_n 3, 1) := by decide +kernel
theorem dX3_passDay_20 : decode cX3_passDay 20 = .ok (.invokestatic 118, 3) := by decide +kernel
theorem dX3_passDay_23 : decode cX3_passDay 23 = .ok (.istore 4, 2) := by decide +kernel
theorem dX3_passDay_25 : decode cX3_passDay 25 = .ok (.iload_n 1, 1) := by decide +kernel
theorem dX3_passDay_26 : decode cX3_passDay 26 = .ok (.ifCond .le 24, 3) := by decide +kernel
theorem dX3_passDay_29 : decode cX3_passDay 29 = .ok (.aload_n 0, 1) := by decide +kernel
theorem dX3_passDay_30 : decode cX3_passDay 30 = .ok (.getfield 24, 3) := by decide +kernel
theorem dX3_passDay_33 : decode cX3_passDay 33 = .ok (.iload_n 3, 1) := by decide +kernel
theorem dX3_passDay_34 : decode cX3_passDay 34 = .ok (.iconst 0, 1) := by decide +kernel
theorem dX3_passDay_35 : decode cX3_passDay 35 = .ok (.iload 4, 2) := by decide +kernel
theorem dX3_passDay_37 : decode cX3_passDay 37 = .ok (.aload_n 0, 1) := by decide +kernel
theorem dX3_passDay_38 : decode cX3_passDay 38 = .ok (.iload_n 3, 1) := by decide +kernel
theorem dX3_passDay_39 : decode cX3_passDay 39 = .ok (.iload_n 1, 1) := by decide +kernel
theorem dX3_passDay_40 : decode cX3_passDay 40 = .ok (.invokevirtual 175, 3) := by decide +kernel
theorem dX3_passDay_43 : decode cX3_passDay 43 = .ok (.isub, 1) := by decide +kernel
theorem dX3_passDay_44 : decode cX3_passDay 44 = .ok (.invokestatic 170, 3) := by decide +kernel
theorem dX3_passDay_47 : decode cX3_passDay 47 = .ok (.invokestatic 110, 3) := by decide +kernel
theorem dX3_passDay_50 : decode cX3_passDay 50 = .ok (.iload_n 1, 1) := by decide +kernel
theorem dX3_passDay_51 : decode cX3_passDay 51 = .ok (.ifCond .ge 28, 3) := by decide +kernel
theorem dX3_passDay_54 : decode cX3_passDay 54 = .ok (.iload_n 2, 1) := by decide +kernel
theorem dX3_passDay_55 : decode cX3_passDay 55 = .ok (.iload_n 3, 1) := by decide +kernel
theorem dX3_passDay_56 : decode cX3_passDay 56 = .ok (.invokestatic 138, 3) := by decide +kernel
theorem dX3_passDay_59 : decode cX3_passDay 59 = .ok (.ifCond .ne 20, 3) := by decide +kernel
theorem dX3_passDay_62 : decode cX3_passDay 62 = .ok (.aload_n 0, 1) := by decide +kernel
theorem dX3_passDay_63 : decode cX3_passDay 63 = .ok (.getfield 24, 3) := by decide +kernel
theorem dX3_passDay_66 : decode cX3_passDay 66 = .ok (.iload_n 3, 1) := by decide +kernel
theorem dX3_passDay_67 : decode cX3_passDay 67 = .ok (.bipush 99, 2) := by decide +kernel
theorem dX3_passDay_69 : decode cX3_passDay 69 = .ok (.iload 4, 2) := by decide +kernel
theorem dX3_passDay_71 : decode cX3_passDay 71 = .ok (.iload_n 1, 1) := by decide +kernel
theorem dX3_passDay_72 : decode cX3_passDay 72 = .ok (.isub, 1) := by decide +kernel
theorem dX3_passDay_73 : decode cX3_passDay 73 = .ok (.invokestatic 178, 3) := by decide +kernel
theorem dX3_passDay_76 : decode cX3_passDay 76 = .ok (.invokestatic 110, 3) := by decide +kernel
theorem dX3_passDay_79 : decode cX3_passDay 79 = .ok (.iinc 3 1, 3) := by decide +kernel
theorem dX3_passDay_82 : decode cX3_passDay 82 = .ok (.goto (-75), 3) := by decide +kernel
theorem dX3_passDay_85 : decode cX3_passDay 85 = .ok (.aload_n 0, 1) := by decide +kernel
theorem dX3_passDay_86 : decode cX3_passDay 86 = .ok (.invokevirtual 135, 3) := by decide +kernel
theorem dX3_passDay_89 : decode cX3_passDay 89 = .ok (.istore_n 3, 1) := by decide +kernel
theorem dX3_passDay_90 : decode cX3_passDay 90 = .ok (.iconst 0, 1) := by decide +kernel
theorem dX3_passDay_91 : decode cX3_passDay 91 = .ok (.istore 4, 2) := by decide +kernel
theorem dX3_passDay_93 : decode cX3_passDay 93 = .ok (.iload 4, 2) := by decide +kernel
theorem dX3_passDay_95 : decode cX3_passDay 95 = .ok (.aload_n 0, 1) := by decide +kernel
theorem dX3_passDay_96 : decode cX3_passDay 96 = .ok (.getfield 15, 3) := by decide +kernel
theorem dX3_passDay_99 : decode cX3_passDay 99 = .ok (.if_icmp .ge 44, 3) := by decide +kernel
theorem dX3_passDay_102 : decode cX3_passDay 102 = .ok (.iload_n 3, 1) := by decide +kernel
theorem dX3_passDay_103 : decode cX3_passDay 103 = .ok (.iload 4, 2) := by decide +kernel
theorem dX3_passDay_105 : decode cX3_passDay 105 = .ok (.invokestatic 138, 3) := by decide +kernel
theorem dX3_passDay_108 : decode cX3_passDay 108 = .ok (.ifCond .eq 29, 3) := by decide +kernel
theorem dX3_passDay_111 : decode cX3_passDay 111 = .ok (.aload_n 0, 1) := by decide +kernel
theorem dX3_passDay_112 : decode cX3_passDay 112 = .ok (.getfield 31, 3) := by decide +kernel
theorem dX3_passDay_115 : decode cX3_passDay 115 = .ok (.iload 4, 2) := by decide +kernel
theorem dX3_passDay_117 : decode cX3_passDay 117 = .ok (.sipush 9999, 3) := by decide +kernel
theorem dX3_passDay_120 : decode cX3_passDay 120 = .ok (.aload_n 0, 1) := by decide +kernel
theorem dX3_passDay_121 : decode cX3_passDay 121 = .ok (.getfield 31, 3) := by decide +kernel
theorem dX3_passDay_124 : decode cX3_passDay 124 = .ok (.iload 4, 2) := by decide +kernel
theorem dX3_passDay_126 : decode cX3_passDay 126 = .ok (.invokestatic 118, 3) := by decide +kernel
theorem dX3_passDay_129 : decode cX3_passDay 129 = .ok (.iconst 1, 1) := by decide +kernel
theorem dX3_passDay_130 : decode cX3_passDay 130 = .ok (.iadd, 1) := by decide +kernel
theorem dX3_passDay_131 : decode cX3_passDay 131 = .ok (.invokestatic 178, 3) := by decide +kernel
theorem dX3_passDay_134 : decode cX3_passDay 134 = .ok (.invokestatic 110, 3) := by decide +kernel
theorem dX3_passDay_137 : decode cX3_passDay 137 = .ok (.iinc 4 1, 3) := by decide +kernel
theorem dX3_passDay_140 : decode cX3_passDay 140 = .ok (.goto (-47), 3) := by decide +kernel
theorem dX3_passDay_143 : decode cX3_passDay 143 = .ok (.return_, 1) := by decide +kernel
theorem dX3_draw_0 : decode cX3_draw 0 = .ok (.aload_n 0, 1) := by decide +kernel
theorem dX3_draw_1 : decode cX3_draw 1 = .ok (.aload_n 0, 1) := by decide +kernel
theorem dX3_draw_2 : decode cX3_draw 2 = .ok (.getfield 58, 3) := by decide +kernel
theorem dX3_draw_5 : decode cX3_draw 5 = .ok (.i2l, 1) := by decide +kernel
theorem dX3_draw_6 : decode cX3_draw 6 = .ok (.ldc2_w 181, 3) := by decide +kernel
theorem dX3_draw_9 : decode cX3_draw 9 = .ok (.lmul, 1) := by decide +kernel
theorem dX3_draw_10 : decode cX3_draw 10 = .ok (.ldc2_w 183, 3) := by decide +kernel
theorem dX3_draw_13 : decode cX3_draw 13 = .ok (.ladd, 1) := by decide +kernel
theorem dX3_draw_14 : decode cX3_draw 14 = .ok (.ldc2_w 185, 3) := by decide +kernel
theorem dX3_draw_17 : decode cX3_draw 17 = .ok (.land, 1) := by decide +kernel
theorem dX3_draw_18 : decode cX3_draw 18 = .ok (.l2i, 1) := by decide +kernel
theorem dX3_draw_19 : decode cX3_draw 19 = .ok (.putfield 58, 3) := by decide +kernel
theorem dX3_draw_22 : decode cX3_draw 22 = .ok (.iload_n 1, 1) := by decide +kernel
theorem dX3_draw_23 : decode cX3_draw 23 = .ok (.ifCond .le 15, 3) := by decide +kernel
theorem dX3_draw_26 : decode cX3_draw 26 = .ok (.aload_n 0, 1) := by decide +kernel
theorem dX3_draw_27 : decode cX3_draw 27 = .ok (.getfield 58, 3) := by decide +kernel
theorem dX3_draw_30 : decode cX3_draw 30 = .ok (.ldc 187, 2) := by decide +kernel
theorem dX3_draw_32 : decode cX3_draw 32 = .ok (.idiv, 1) := by decide +kernel
theorem dX3_draw_33 : decode cX3_draw 33 = .ok (.iload_n 1, 1) := by decide +kernel
theorem dX3_draw_34 : decode cX3_draw 34 = .ok (.irem, 1) := by decide +kernel
theorem dX3_draw_35 : decode cX3_draw 35 = .ok (.goto 4, 3) := by decide +kernel
theorem dX3_draw_38 : decode cX3_draw 38 = .ok (.iconst 0, 1) := by decide +kernel
theorem dX3_draw_39 : decode cX3_draw 39 = .ok (.ireturn, 1) := by decide +kernel
theorem dX3_passNight_0 : decode cX3_passNight 0 = .ok (.aload_n 0, 1) := by decide +kernel
theorem dX3_passNight_1 : decode cX3_passNight 1 = .ok (.invokevirtual 135, 3) := by decide +kernel
theorem dX3_passNight_4 : decode cX3_passNight 4 = .ok (.istore_n 2, 1) := by decide +kernel
theorem dX3_passNight_5 : decode cX3_passNight 5 = .ok (.iconst 0, 1) := by decide +kernel
theorem dX3_passNight_6 : decode cX3_passNight 6 = .ok (.istore_n 3, 1) := by decide +kernel
theorem dX3_passNight_7 : decode cX3_passNight 7 = .ok (.iload_n 3, 1) := by decide +kernel
theorem dX3_passNight_8 : decode cX3_passNight 8 = .ok (.aload_n 0, 1) := by decide +kernel
theorem dX3_passNight_9 : decode cX3_passNight 9 = .ok (.getfield 15, 3) := by decide +kernel
theorem dX3_passNight_12 : decode cX3_passNight 12 = .ok (.if_icmp .ge 49, 3) := by decide +kernel
theorem dX3_passNight_15 : decode cX3_passNight 15 = .ok (.iload_n 2, 1) := by decide +kernel
theorem dX3_passNight_16 : decode cX3_passNight 16 = .ok (.iload_n 3, 1) := by decide +kernel
theorem dX3_passNight_17 : decode cX3_passNight 17 = .ok (.invokestatic 138, 3) := by decide +kernel
theorem dX3_passNight_20 : decode cX3_passNight 20 = .ok (.ifCond .eq 35, 3) := by decide +kernel
theorem dX3_passNight_23 : decode cX3_passNight 23 = .ok (.aload_n 0, 1) := by decide +kernel
theorem dX3_passNight_24 : decode cX3_passNight 24 = .ok (.bipush 10, 2) := by decide +kernel
theorem dX3_passNight_26 : decode cX3_passNight 26 = .ok (.invokevirtual 188, 3) := by decide +kernel
theorem dX3_passNight_29 : decode cX3_passNight 29 = .ok (.iload_n 1, 1) := by decide +kernel
theorem dX3_passNight_30 : decode cX3_passNight 30 = .ok (.if_icmp .ge 25, 3) := by decide +kernel
theorem dX3_passNight_33 : decode cX3_passNight 33 = .ok (.aload_n 0, 1) := by decide +kernel
theorem dX3_passNight_34 : decode cX3_passNight 34 = .ok (.getfield 40, 3) := by decide +kernel
theorem dX3_passNight_37 : decode cX3_passNight 37 = .ok (.iload_n 3, 1) := by decide +kernel
theorem dX3_passNight_38 : decode cX3_passNight 38 = .ok (.iconst 0, 1) := by decide +kernel
theorem dX3_passNight_39 : decode cX3_passNight 39 = .ok (.aload_n 0, 1) := by decide +kernel
theorem dX3_passNight_40 : decode cX3_passNight 40 = .ok (.getfield 40, 3) := by decide +kernel
theorem dX3_passNight_43 : decode cX3_passNight 43 = .ok (.iload_n 3, 1) := by decide +kernel
theorem dX3_passNight_44 : decode cX3_passNight 44 = .ok (.invokestatic 118, 3) := by decide +kernel
theorem dX3_passNight_47 : decode cX3_passNight 47 = .ok (.iconst 1, 1) := by decide +kernel
theorem dX3_passNight_48 : decode cX3_passNight 48 = .ok (.isub, 1) := by decide +kernel
theorem dX3_passNight_49 : decode cX3_passNight 49 = .ok (.invokestatic 170, 3) := by decide +kernel
theorem dX3_passNight_52 : decode cX3_passNight 52 = .ok (.invokestatic 110, 3) := by decide +kernel
theorem dX3_passNight_55 : decode cX3_passNight 55 = .ok (.iinc 3 1, 3) := by decide +kernel
theorem dX3_passNight_58 : decode cX3_passNight 58 = .ok (.goto (-51), 3) := by decide +kernel
theorem dX3_passNight_61 : decode cX3_passNight 61 = .ok (.return_, 1) := by decide +kernel
theorem dX3_layDown_0 : decode cX3_layDown 0 = .ok (.aload_n 0, 1) := by decide +kernel
theorem dX3_layDown_1 : decode cX3_layDown 1 = .ok (.getfield 24, 3) := by decide +kernel
theorem dX3_layDown_4 : decode cX3_layDown 4 = .ok (.iload_n 2, 1) := by decide +kernel
theorem dX3_layDown_5 : decode cX3_layDown 5 = .ok (.invokestatic 118, 3) := by decide +kernel
theorem dX3_layDown_8 : decode cX3_layDown 8 = .ok (.iconst 4, 1) := by decide +kernel
theorem dX3_layDown_9 : decode cX3_layDown 9 = .ok (.iadd, 1) := by decide +kernel
theorem dX3_layDown_10 : decode cX3_layDown 10 = .ok (.istore_n 3, 1) := by decide +kernel
theorem dX3_layDown_11 : decode cX3_layDown 11 = .ok (.aload_n 0, 1) := by decide +kernel
theorem dX3_layDown_12 : decode cX3_layDown 12 = .ok (.getfield 24, 3) := by decide +kernel
theorem dX3_layDown_15 : decode cX3_layDown 15 = .ok (.iload_n 2, 1) := by decide +kernel
theorem dX3_layDown_16 : decode cX3_layDown 16 = .ok (.iconst 0, 1) := by decide +kernel
theorem dX3_layDown_17 : decode cX3_layDown 17 = .ok (.invokestatic 110, 3) := by decide +kernel
theorem dX3_layDown_20 : decode cX3_layDown 20 = .ok (.aload_n 0, 1) := by decide +kernel
theorem dX3_layDown_21 : decode cX3_layDown 21 = .ok (.getfield 43, 3) := by decide +kernel
theorem dX3_layDown_24 : decode cX3_layDown 24 = .ok (.iload_n 1, 1) := by decide +kernel
theorem dX3_layDown_25 : decode cX3_layDown 25 = .ok (.iload_n 2, 1) := by decide +kernel
theorem dX3_layDown_26 : decode cX3_layDown 26 = .ok (.invokestatic 110, 3) := by decide +kernel
theorem dX3_layDown_29 : decode cX3_layDown 29 = .ok (.aload_n 0, 1) := by decide +kernel
theorem dX3_layDown_30 : decode cX3_layDown 30 = .ok (.dup, 1) := by decide +kernel
theorem dX3_layDown_31 : decode cX3_layDown 31 = .ok (.getfield 55, 3) := by decide +kernel
theorem dX3_layDown_34 : decode cX3_layDown 34 = .ok (.iload_n 3, 1) := by decide +kernel
theorem dX3_layDown_35 : decode cX3_layDown 35 = .ok (.iadd, 1) := by decide +kernel
theorem dX3_layDown_36 : decode cX3_layDown 36 = .ok (.putfield 55, 3) := by decide +kernel
theorem dX3_layDown_39 : decode cX3_layDown 39 = .ok (.iload_n 3, 1) := by decide +kernel
theorem dX3_layDown_40 : decode cX3_layDown 40 = .ok (.ireturn, 1) := by decide +kernel
theorem dX3_softBehind_0 : decode cX3_softBehind 0 = .ok (.aload_n 0, 1) := by decide +kernel
theorem dX3_softBehind_1 : decode cX3_softBehind 1 = .ok (.invokevirtual 132, 3) := by decide +kernel
theorem dX3_softBehind_4 : decode cX3_softBehind 4 = .ok (.istore_n 3, 1) := by decide +kernel
theorem dX3_softBehind_5 : decode cX3_softBehind 5 = .ok (.iconst 0, 1) := by decide +kernel
theorem dX3_softBehind_6 : decode cX3_softBehind 6 = .ok (.istore 4, 2) := by decide +kernel
theorem dX3_softBehind_8 : decode cX3_softBehind 8 = .ok (.iconst 0, 1) := by decide +kernel
theorem dX3_softBehind_9 : decode cX3_softBehind 9 = .ok (.istore 5, 2) := by decide +kernel
theorem dX3_softBehind_11 : decode cX3_softBehind 11 = .ok (.iload 5, 2) := by decide +kernel
theorem dX3_softBehind_13 : decode cX3_softBehind 13 = .ok (.aload_n 0, 1) := by decide +kernel
theorem dX3_softBehind_14 : decode cX3_softBehind 14 = .ok (.getfield 9, 3) := by decide +kernel
theorem dX3_softBehind_17 : decode cX3_softBehind 17 = .ok (.if_icmp .ge 42, 3) := by decide +kernel
theorem dX3_softBehind_20 : decode cX3_softBehind 20 = .ok (.iload_n 3, 1) := by decide +kernel
theorem dX3_softBehind_21 : decode cX3_softBehind 21 = .ok (.iload 5, 2) := by decide +kernel
theorem dX3_softBehind_23 : decode cX3_softBehind 23 = .ok (.invokestatic 138, 3) := by decide +kernel
theorem dX3_softBehind_26 : decode cX3_softBehind 26 = .ok (.ifCond .ne 27, 3) := by decide +kernel
theorem dX3_softBehind_29 : decode cX3_softBehind 29 = .ok (.aload_n 0, 1) := by decide +kernel
theorem dX3_softBehind_30 : decode cX3_softBehind 30 = .ok (.getfield 24, 3) := by decide +kernel
theorem dX3_softBehind_33 : decode cX3_softBehind 33 = .ok (.iload 5, 2) := by decide +kernel
theorem dX3_softBehind_35 : decode cX3_softBehind 35 = .ok (.invokestatic 118, 3) := by decide +kernel
theorem dX3_softBehind_38 : decode cX3_softBehind 38 = .ok (.iload_n 1, 1) := by decide +kernel
theorem dX3_softBehind_39 : decode cX3_softBehind 39 = .ok (.aload_n 0, 1) := by decide +kernel
theorem dX3_softBehind_40 : decode cX3_softBehind 40 = .ok (.iload 5, 2) := by decide +kernel
theorem dX3_softBehind_42 : decode cX3_softBehind 42 = .ok (.iload_n 2, 1) := by decide +kernel
theorem dX3_softBehind_43 : decode cX3_softBehind 43 = .ok (.invokevirtual 175, 3) := by decide +kernel
theorem dX3_softBehind_46 : decode cX3_softBehind 46 = .ok (.imul, 1) := by decide +kernel
theorem dX3_softBehind_47 : decode cX3_softBehind 47 = .ok (.if_icmp .gt 6, 3) := by decide +kernel
theorem dX3_softBehind_50 : decode cX3_softBehind 50 = .ok (.iinc 4 1, 3) := by decide +kernel
theorem dX3_softBehind_53 : decode cX3_softBehind 53 = .ok (.iinc 5 1, 3) := by decide +kernel
theorem dX3_softBehind_56 : decode cX3_softBehind 56 = .ok (.goto (-45), 3) := by decide +kernel
theorem dX3_softBehind_59 : decode cX3_softBehind 59 = .ok (.iload 4, 2) := by decide +kernel
theorem dX3_softBehind_61 : decode cX3_softBehind 61 = .ok (.ireturn, 1) := by decide +kernel
theorem dX3_daysUntilSoft_0 : decode cX3_daysUntilSoft 0 = .ok (.iconst 0, 1) := by decide +kernel
theorem dX3_daysUntilSoft_1 : decode cX3_daysUntilSoft 1 = .ok (.istore_n 3, 1) := by decide +kernel
theorem dX3_daysUntilSoft_2 : decode cX3_daysUntilSoft 2 = .ok (.iload_n 3, 1) := by decide +kernel
theorem dX3_daysUntilSoft_3 : decode cX3_daysUntilSoft 3 = .ok (.sipush 999, 3) := by decide +kernel
theorem dX3_daysUntilSoft_6 : decode cX3_daysUntilSoft 6 = .ok (.if_icmp .gt 21, 3) := by decide +kernel
theorem dX3_daysUntilSoft_9 : decode cX3_daysUntilSoft 9 = .ok (.aload_n 0, 1) := by decide +kernel
theorem dX3_daysUntilSoft_10 : decode cX3_daysUntilSoft 10 = .ok (.iload_n 3, 1) := by decide +kernel
theorem dX3_daysUntilSoft_11 : decode cX3_daysUntilSoft 11 = .ok (.iload_n 2, 1) := by decide +kernel
theorem dX3_daysUntilSoft_12 : decode cX3_daysUntilSoft 12 = .ok (.invokevirtual 191, 3) := by decide +kernel
theorem dX3_daysUntilSoft_15 : decode cX3_daysUntilSoft 15 = .ok (.iload_n 1, 1) := by decide +kernel
theorem dX3_daysUntilSoft_16 : decode cX3_daysUntilSoft 16 = .ok (.if_icmp .lt 5, 3) := by decide +kernel
theorem dX3_daysUntilSoft_19 : decode cX3_daysUntilSoft 19 = .ok (.iload_n 3, 1) := by decide +kernel
theorem dX3_daysUntilSoft_20 : decode cX3_daysUntilSoft 20 = .ok (.ireturn, 1) := by decide +kernel
theorem dX3_daysUntilSoft_21 : decode cX3_daysUntilSoft 21 = .ok (.iinc 3 1, 3) := by decide +kernel
theorem dX3_daysUntilSoft_24 : decode cX3_daysUntilSoft 24 = .ok (.goto (-22), 3) := by decide +kernel
theorem dX3_daysUntilSoft_27 : decode cX3_daysUntilSoft 27 = .ok (.iconst (-1), 1) := by decide +kernel
theorem dX3_daysUntilSoft_28 : decode cX3_daysUntilSoft 28 = .ok (.ireturn, 1) := by decide +kernel
theorem dX4_init_0 : decode cX4_init 0 = .ok (.aload_n 0, 1) := by decide +kernel
theorem dX4_init_1 : decode cX4_init 1 = .ok (.invokespecial 3, 3) := by decide +kernel
theorem dX4_init_4 : decode cX4_init 4 = .ok (.aload_n 0, 1) := by decide +kernel
theorem dX4_init_5 : decode cX4_init 5 = .ok (.bipush 7, 2) := by decide +kernel
theorem dX4_init_7 : decode cX4_init 7 = .ok (.newarray .int, 2) := by decide +kernel
theorem dX4_init_9 : decode cX4_init 9 = .ok (.putfield 9, 3) := by decide +kernel
theorem dX4_init_12 : decode cX4_init 12 = .ok (.aload_n 0, 1) := by decide +kernel
theorem dX4_init_13 : decode cX4_init 13 = .ok (.bipush 7, 2) := by decide +kernel
theorem dX4_init_15 : decode cX4_init 15 = .ok (.newarray .int, 2) := by decide +kernel
theorem dX4_init_17 : decode cX4_init 17 = .ok (.putfield 15, 3) := by decide +kernel
theorem dX4_init_20 : decode cX4_init 20 = .ok (.aload_n 0, 1) := by decide +kernel
theorem dX4_init_21 : decode cX4_init 21 = .ok (.bipush 7, 2) := by decide +kernel
theorem dX4_init_23 : decode cX4_init 23 = .ok (.newarray .int, 2) := by decide +kernel
theorem dX4_init_25 : decode cX4_init 25 = .ok (.putfield 18, 3) := by decide +kernel
theorem dX4_init_28 : decode cX4_init 28 = .ok (.aload_n 0, 1) := by decide +kernel
theorem dX4_init_29 : decode cX4_init 29 = .ok (.bipush 7, 2) := by decide +kernel
theorem dX4_init_31 : decode cX4_init 31 = .ok (.newarray .int, 2) := by decide +kernel
theorem dX4_init_33 : decode cX4_init 33 = .ok (.putfield 21, 3) := by decide +kernel
theorem dX4_init_36 : decode cX4_init 36 = .ok (.aload_n 0, 1) := by decide +kernel
theorem dX4_init_37 : decode cX4_init 37 = .ok (.iconst 0, 1) := by decide +kernel
theorem dX4_init_38 : decode cX4_init 38 = .ok (.putfield 24, 3) := by decide +kernel
theorem dX4_init_41 : decode cX4_init 41 = .ok (.aload_n 0, 1) := by decide +kernel
theorem dX4_init_42 : decode cX4_init 42 = .ok (.iconst 0, 1) := by decide +kernel
theorem dX4_init_43 : decode cX4_init 43 = .ok (.putfield 28, 3) := by decide +kernel
theorem dX4_init_46 : decode cX4_init 46 = .ok (.return_, 1) := by decide +kernel
theorem dX4_begin_0 : decode cX4_begin 0 = .ok (.iconst 0, 1) := by decide +kernel
theorem dX4_begin_1 : decode cX4_begin 1 = .ok (.istore_n 3, 1) := by decide +kernel
theorem dX4_begin_2 : decode cX4_begin 2 = .ok (.iload_n 3, 1) := by decide +kernel
theorem dX4_begin_3 : decode cX4_begin 3 = .ok (.bipush 7, 2) := by decide +kernel
theorem dX4_begin_5 : decode cX4_begin 5 = .ok (.if_icmp .ge 152, 3) := by decide +kernel
theorem dX4_begin_8 : decode cX4_begin 8 = .ok (.aload_n 0, 1) := by decide +kernel
theorem dX4_begin_9 : decode cX4_begin 9 = .ok (.getfield 9, 3) := by decide +kernel
theorem dX4_begin_12 : decode cX4_begin 12 = .ok (.iload_n 3, 1) := by decide +kernel
theorem dX4_begin_13 : decode cX4_begin 13 = .ok (.iconst 0, 1) := by decide +kernel
theorem dX4_begin_14 : decode cX4_begin 14 = .ok (.invokestatic 32, 3) := by decide +kernel
theorem dX4_begin_17 : decode cX4_begin 17 = .ok (.aload_n 0, 1) := by decide +kernel
theorem dX4_begin_18 : decode cX4_begin 18 = .ok (.getfield 15, 3) := by decide +kernel
theorem dX4_begin_21 : decode cX4_begin 21 = .ok (.iload_n 3, 1) := by decide +kernel
theorem dX4_begin_22 : decode cX4_begin 22 = .ok (.iconst 0, 1) := by decide +kernel
theorem dX4_begin_23 : decode cX4_begin 23 = .ok (.invokestatic 32, 3) := by decide +kernel
theorem dX4_begin_26 : decode cX4_begin 26 = .ok (.aload_n 0, 1) := by decide +kernel
theorem dX4_begin_27 : decode cX4_begin 27 = .ok (.getfield 18, 3) := by decide +kernel
theorem dX4_begin_30 : decode cX4_begin 30 = .ok (.iload_n 3, 1) := by decide +kernel
theorem dX4_begin_31 : decode cX4_begin 31 = .ok (.aload_n 1, 1) := by decide +kernel
theorem dX4_begin_32 : decode cX4_begin 32 = .ok (.iload_n 3, 1) := by decide +kernel
theorem dX4_begin_33 : decode cX4_begin 33 = .ok (.invokevirtual 36, 3) := by decide +kernel
theorem dX4_begin_36 : decode cX4_begin 36 = .ok (.ifCond .eq 14, 3) := by decide +kernel
theorem dX4_begin_39 : decode cX4_begin 39 = .ok (.aload_n 1, 1) := by decide +kernel
theorem dX4_begin_40 : decode cX4_begin 40 = .ok (.getfield 42, 3) := by decide +kernel
theorem dX4_begin_43 : decode cX4_begin 43 = .ok (.iload_n 3, 1) := by decide +kernel
theorem dX4_begin_44 : decode cX4_begin 44 = .ok (.invokestatic 45, 3) := by decide +kernel
theorem dX4_begin_47 : decode cX4_begin 47 = .ok (.goto 4, 3) := by decide +kernel
theorem dX4_begin_50 : decode cX4_begin 50 = .ok (.iconst (-1), 1) := by decide +kernel
theorem dX4_begin_51 : decode cX4_begin 51 = .ok (.invokestatic 32, 3) := by decide +kernel
theorem dX4_begin_54 : decode cX4_begin 54 = .ok (.iconst 0, 1) := by decide +kernel
theorem dX4_begin_55 : decode cX4_begin 55 = .ok (.istore 4, 2) := by decide +kernel
theorem dX4_begin_57 : decode cX4_begin 57 = .ok (.iload 4, 2) := by decide +kernel
theorem dX4_begin_59 : decode cX4_begin 59 = .ok (.bipush 7, 2) := by decide +kernel
theorem dX4_begin_61 : decode cX4_begin 61 = .ok (.if_icmp .ge 90, 3) := by decide +kernel
theorem dX4_begin_64 : decode cX4_begin 64 = .ok (.aload_n 1, 1) := by decide +kernel
theorem dX4_begin_65 : decode cX4_begin 65 = .ok (.aload_n 2, 1) := by decide +kernel
theorem dX4_begin_66 : decode cX4_begin 66 = .ok (.iload_n 3, 1) := by decide +kernel
theorem dX4_begin_67 : decode cX4_begin 67 = .ok (.invokevirtual 49, 3) := by decide +kernel
theorem dX4_begin_70 : decode cX4_begin 70 = .ok (.aload_n 1, 1) := by decide +kernel
theorem dX4_begin_71 : decode cX4_begin 71 = .ok (.aload_n 2, 1) := by decide +kernel
theorem dX4_begin_72 : decode cX4_begin 72 = .ok (.iload 4, 2) := by decide +kernel
theorem dX4_begin_74 : decode cX4_begin 74 = .ok (.invokevirtual 49, 3) := by decide +kernel
theorem dX4_begin_77 : decode cX4_begin 77 = .ok (.lcmp, 1) := by decide +kernel
theorem dX4_begin_78 : decode cX4_begin 78 = .ok (.ifCond .le 25, 3) := by decide +kernel
theorem dX4_begin_81 : decode cX4_begin 81 = .ok (.aload_n 0, 1) := by decide +kernel
theorem dX4_begin_82 : decode cX4_begin 82 = .ok (.getfield 9, 3) := by decide +kernel
theorem dX4_begin_85 : decode cX4_begin 85 = .ok (.iload_n 3, 1) := by decide +kernel
theorem dX4_begin_86 : decode cX4_begin 86 = .ok (.aload_n 0, 1) := by decide +kernel
theorem dX4_begin_87 : decode cX4_begin 87 = .ok (.getfield 9, 3) := by decide +kernel
theorem dX4_begin_90 : decode cX4_begin 90 = .ok (.iload_n 3, 1) := by decide +kernel
theorem dX4_begin_91 : decode cX4_begin 91 = .ok (.invokestatic 45, 3) := by decide +kernel
theorem dX4_begin_94 : decode cX4_begin 94 = .ok (.iload 4, 2) := by decide +kernel
theorem dX4_begin_96 : decode cX4_begin 96 = .ok (.invokestatic 53, 3) := by decide +kernel
theorem dX4_begin_99 : decode cX4_begin 99 = .ok (.ior, 1) := by decide +kernel
theorem dX4_begin_100 : decode cX4_begin 100 = .ok (.invokestatic 32, 3) := by decide +kernel
theorem dX4_begin_103 : decode cX4_begin 103 = .ok (.aload_n 1, 1) := by decide +kernel
theorem dX4_begin_104 : decode cX4_begin 104 = .ok (.getfield 57, 3) := by decide +kernel
theorem dX4_begin_107 : decode cX4_begin 107 = .ok (.iload_n 3, 1) := by decide +kernel
theorem dX4_begin_108 : decode cX4_begin 108 = .ok (.invokestatic 45, 3) := by decide +kernel
theorem dX4_begin_111 : decode cX4_begin 111 = .ok (.aload_n 1, 1) := by decide +kernel
theorem dX4_begin_112 : decode cX4_begin 112 = .ok (.getfield 57, 3) := by decide +kernel
theorem dX4_begin_115 : decode cX4_begin 115 = .ok (.iload 4, 2) := by decide +kernel
theorem dX4_begin_117 : decode cX4_begin 117 = .ok (.invokestatic 45, 3) := by decide +kernel
theorem dX4_begin_120 : decode cX4_begin 120 = .ok (.if_icmp .ne 25, 3) := by decide +kernel
theorem dX4_begin_123 : decode cX4_begin 123 = .ok (.aload_n 0, 1) := by decide +kernel
theorem dX4_begin_124 : decode cX4_begin 124 = .ok (.getfield 15, 3) := by decide +kernel
theorem dX4_begin_127 : decode cX4_begin 127 = .ok (.iload_n 3, 1) := by decide +kernel
theorem dX4_begin_128 : decode cX4_begin 128 = .ok (.aload_n 0, 1) := by decide +kernel
theorem dX4_begin_129 : decode cX4_begin 129 = .ok (.getfield 15, 3) := by decide +kernel
theorem dX4_begin_132 : decode cX4_begin 132 = .ok (.iload_n 3, 1) := by decide +kernel
theorem dX4_begin_133 : decode cX4_begin 133 = .ok (.invokestatic 45, 3) := by decide +kernel
theorem dX4_begin_136 : decode cX4_begin 136 = .ok (.iload 4, 2) := by decide +kernel
theorem dX4_begin_138 : decode cX4_begin 138 = .ok (.invokestatic 53, 3) := by decide +kernel
theorem dX4_begin_141 : decode cX4_begin 141 = .ok (.ior, 1) := by decide +kernel
theorem dX4_begin_142 : decode cX4_begin 142 = .ok (.invokestatic 32, 3) := by decide +kernel
theorem dX4_begin_145 : decode cX4_begin 145 = .ok (.iinc 4 1, 3) := by decide +kernel
theorem dX4_begin_148 : decode cX4_begin 148 = .ok (.goto (-91), 3) := by decide +kernel
theorem dX4_begin_151 : decode cX4_begin 151 = .ok (.iinc 3 1, 3) := by decide +kernel
theorem dX4_begin_154 : decode cX4_begin 154 = .ok (.goto (-152), 3) := by decide +kernel
theorem dX4_begin_157 : decode cX4_begin 157 = .ok (.return_, 1) := by decide +kernel
theorem dX4_offends_0 : decode cX4_offends 0 = .ok (.aload_n 0, 1) := by decide +kernel
theorem dX4_offends_1 : decode cX4_offends 1 = .ok (.getfield 9, 3) := by decide +kernel
theorem dX4_offends_4 : decode cX4_offends 4 = .ok (.iload_n 2, 1) := by decide +kernel
theorem dX4_offends_5 : decode cX4_offends 5 = .ok (.invokestatic 45, 3) := by decide +kernel
theorem dX4_offends_8 : decode cX4_offends 8 = .ok (.iload_n 1, 1) := by decide +kernel
theorem dX4_offends_9 : decode cX4_offends 9 = .ok (.invokestatic 60, 3) := by decide +kernel
theorem dX4_offends_12 : decode cX4_offends 12 = .ok (.ifCond .eq 26, 3) := by decide +kernel
theorem dX4_offends_15 : decode cX4_offends 15 = .ok (.aload_n 0, 1) := by decide +kernel
theorem dX4_offends_16 : decode cX4_offends 16 = .ok (.getfield 18, 3) := by decide +kernel
theorem dX4_offends_19 : decode cX4_offends 19 = .ok (.iload_n 1, 1) := by decide +kernel
theorem dX4_offends_20 : decode cX4_offends 20 = .ok (.invokestatic 45, 3) := by decide +kernel
theorem dX4_offends_23 : decode cX4_offends 23 = .ok (.aload_n 0, 1) := by decide +kernel
theorem dX4_offends_24 : decode cX4_offends 24 = .ok (.getfield 18, 3) := by decide +kernel
theorem dX4_offends_27 : decode cX4_offends 27 = .ok (.iload_n 2, 1) := by decide +kernel
theorem dX4_offends_28 : decode cX4_offends 28 = .ok (.invokestatic 45, 3) := by decide +kernel
theorem dX4_offends_31 : decode cX4_offends 31 = .ok (.if_icmp .ge 7, 3) := by decide +kernel
theorem dX4_offends_34 : decode cX4_offends 34 = .ok (.iconst 1, 1) := by decide +kernel
theorem dX4_offends_35 : decode cX4_offends 35 = .ok (.goto 4, 3) := by decide +kernel
theorem dX4_offends_38 : decode cX4_offends 38 = .ok (.iconst 0, 1) := by decide +kernel
theorem dX4_offends_39 : decode cX4_offends 39 = .ok (.ireturn, 1) := by decide +kernel
theorem dX4_whoOffends_0 : decode cX4_whoOffends 0 = .ok (.iconst 0, 1) := by decide +kernel
theorem dX4_whoOffends_1 : decode cX4_whoOffends 1 = .ok (.istore_n 2, 1) := by decide +kernel
theorem dX4_whoOffends_2 : decode cX4_whoOffends 2 = .ok (.iconst 0, 1) := by decide +kernel
theorem dX4_whoOffends_3 : decode cX4_whoOffends 3 = .ok (.istore_n 3, 1) := by decide +kernel
theorem dX4_whoOffends_4 : decode cX4_whoOffends 4 = .ok (.iload_n 3, 1) := by decide +kernel
theorem dX4_whoOffends_5 : decode cX4_whoOffends 5 = .ok (.bipush 7, 2) := by decide +kernel
theorem dX4_whoOffends_7 : decode cX4_whoOffends 7 = .ok (.if_icmp .ge 37, 3) := by decide +kernel
theorem dX4_whoOffends_10 : decode cX4_whoOffends 10 = .ok (.aload_n 0, 1) := by decide +kernel
theorem dX4_whoOffends_11 : decode cX4_whoOffends 11 = .ok (.getfield 18, 3) := by decide +kernel
theorem dX4_whoOffends_14 : decode cX4_whoOffends 14 = .ok (.iload_n 3, 1) := by decide +kernel
theorem dX4_whoOffends_15 : decode cX4_whoOffends 15 = .ok (.invokestatic 45, 3) := by decide +kernel
theorem dX4_whoOffends_18 : decode cX4_whoOffends 18 = .ok (.iconst (-1), 1) := by decide +kernel
theorem dX4_whoOffends_19 : decode cX4_whoOffends 19 = .ok (.if_icmp .eq 19, 3) := by decide +kernel
theorem dX4_whoOffends_22 : decode cX4_whoOffends 22 = .ok (.aload_n 0, 1) := by decide +kernel
theorem dX4_whoOffends_23 : decode cX4_whoOffends 23 = .ok (.iload_n 3, 1) := by decide +kernel
theorem dX4_whoOffends_24 : decode cX4_whoOffends 24 = .ok (.iload_n 1, 1) := by decide +kernel
theorem dX4_whoOffends_25 : decode cX4_whoOffends 25 = .ok (.invokevirtual 64, 3) := by decide +kernel
theorem dX4_whoOffends_28 : decode cX4_whoOffends 28 = .ok (.ifCond .eq 10, 3) := by decide +kernel
theorem dX4_whoOffends_31 : decode cX4_whoOffends 31 = .ok (.iload_n 2, 1) := by decide +kernel
theorem dX4_whoOffends_32 : decode cX4_whoOffends 32 = .ok (.iload_n 3, 1) := by decide +kernel
theorem dX4_whoOffends_33 : decode cX4_whoOffends 33 = .ok (.invokestatic 53, 3) := by decide +kernel
theorem dX4_whoOffends_36 : decode cX4_whoOffends 36 = .ok (.ior, 1) := by decide +kernel
theorem dX4_whoOffends_37 : decode cX4_whoOffends 37 = .ok (.istore_n 2, 1) := by decide +kernel
theorem dX4_whoOffends_38 : decode cX4_whoOffends 38 = .ok (.iinc 3 1, 3) := by decide +kernel
theorem dX4_whoOffends_41 : decode cX4_whoOffends 41 = .ok (.goto (-37), 3) := by decide +kernel
theorem dX4_whoOffends_44 : decode cX4_whoOffends 44 = .ok (.iload_n 2, 1) := by decide +kernel
theorem dX4_whoOffends_45 : decode cX4_whoOffends 45 = .ok (.ireturn, 1) := by decide +kernel
theorem dX4_quarrelsOf_0 : decode cX4_quarrelsOf 0 = .ok (.aload_n 0, 1) := by decide +kernel
theorem dX4_quarrelsOf_1 : decode cX4_quarrelsOf 1 = .ok (.iload_n 2, 1) := by decide +kernel
theorem dX4_quarrelsOf_2 : decode cX4_quarrelsOf 2 = .ok (.iload_n 1, 1) := by decide +kernel
theorem dX4_quarrelsOf_3 : decode cX4_quarrelsOf 3 = .ok (.invokevirtual 64, 3) := by decide +kernel
theorem dX4_quarrelsOf_6 : decode cX4_quarrelsOf 6 = .ok (.ifCond .ne 12, 3) := by decide +kernel
theorem dX4_quarrelsOf_9 : decode cX4_quarrelsOf 9 = .ok (.aload_n 0, 1) := by decide +kernel
theorem dX4_quarrelsOf_10 : decode cX4_quarrelsOf 10 = .ok (.iload_n 1, 1) := by decide +kernel
theorem dX4_quarrelsOf_11 : decode cX4_quarrelsOf 11 = .ok (.iload_n 2, 1) := by decide +kernel
theorem dX4_quarrelsOf_12 : decode cX4_quarrelsOf 12 = .ok (.invokevirtual 64, 3) := by decide +kernel
theorem dX4_quarrelsOf_15 : decode cX4_quarrelsOf 15 = .ok (.ifCond .eq 7, 3) := by decide +kernel
theorem dX4_quarrelsOf_18 : decode cX4_quarrelsOf 18 = .ok (.iconst 1, 1) := by decide +kernel
theorem dX4_quarrelsOf_19 : decode cX4_quarrelsOf 19 = .ok (.goto 4, 3) := by decide +kernel
theorem dX4_quarrelsOf_22 : decode cX4_quarrelsOf 22 = .ok (.iconst 0, 1) := by decide +kernel
theorem dX4_quarrelsOf_23 : decode cX4_quarrelsOf 23 = .ok (.istore_n 3, 1) := by decide +kernel
theorem dX4_quarrelsOf_24 : decode cX4_quarrelsOf 24 = .ok (.aload_n 0, 1) := by decide +kernel
theorem dX4_quarrelsOf_25 : decode cX4_quarrelsOf 25 = .ok (.getfield 18, 3) := by decide +kernel
theorem dX4_quarrelsOf_28 : decode cX4_quarrelsOf 28 = .ok (.iload_n 1, 1) := by decide +kernel
theorem dX4_quarrelsOf_29 : decode cX4_quarrelsOf 29 = .ok (.invokestatic 45, 3) := by decide +kernel
theorem dX4_quarrelsOf_32 : decode cX4_quarrelsOf 32 = .ok (.aload_n 0, 1) := by decide +kernel
theorem dX4_quarrelsOf_33 : decode cX4_quarrelsOf 33 = .ok (.getfield 18, 3) := by decide +kernel
theorem dX4_quarrelsOf_36 : decode cX4_quarrelsOf 36 = .ok (.iload_n 2, 1) := by decide +kernel
theorem dX4_quarrelsOf_37 : decode cX4_quarrelsOf 37 = .ok (.invokestatic 45, 3) := by decide +kernel
theorem dX4_quarrelsOf_40 : decode cX4_quarrelsOf 40 = .ok (.isub, 1) := by decide +kernel
theorem dX4_quarrelsOf_41 : decode cX4_quarrelsOf 41 = .ok (.invokestatic 67, 3) := by decide +kernel
theorem dX4_quarrelsOf_44 : decode cX4_quarrelsOf 44 = .ok (.iconst 1, 1) := by decide +kernel
theorem dX4_quarrelsOf_45 : decode cX4_quarrelsOf 45 = .ok (.if_icmp .ne 7, 3) := by decide +kernel
theorem dX4_quarrelsOf_48 : decode cX4_quarrelsOf 48 = .ok (.iconst 1, 1) := by decide +kernel
theorem dX4_quarrelsOf_49 : decode cX4_quarrelsOf 49 = .ok (.goto 4, 3) := by decide +kernel
theorem dX4_quarrelsOf_52 : decode cX4_quarrelsOf 52 = .ok (.iconst 0, 1) := by decide +kernel
theorem dX4_quarrelsOf_53 : decode cX4_quarrelsOf 53 = .ok (.istore 4, 2) := by decide +kernel
theorem dX4_quarrelsOf_55 : decode cX4_quarrelsOf 55 = .ok (.aload_n 0, 1) := by decide +kernel
theorem dX4_quarrelsOf_56 : decode cX4_quarrelsOf 56 = .ok (.getfield 15, 3) := by decide +kernel
theorem dX4_quarrelsOf_59 : decode cX4_quarrelsOf 59 = .ok (.iload_n 1, 1) := by decide +kernel
theorem dX4_quarrelsOf_60 : decode cX4_quarrelsOf 60 = .ok (.invokestatic 45, 3) := by decide +kernel
theorem dX4_quarrelsOf_63 : decode cX4_quarrelsOf 63 = .ok (.iload_n 2, 1) := by decide +kernel
theorem dX4_quarrelsOf_64 : decode cX4_quarrelsOf 64 = .ok (.invokestatic 60, 3) := by decide +kernel
theorem dX4_quarrelsOf_67 : decode cX4_quarrelsOf 67 = .ok (.ifCond .eq 14, 3) := by decide +kernel
theorem dX4_quarrelsOf_70 : decode cX4_quarrelsOf 70 = .ok (.iload 4, 2) := by decide +kernel
theorem dX4_quarrelsOf_72 : decode cX4_quarrelsOf 72 = .ok (.ifCond .ne 9, 3) := by decide +kernel
theorem dX4_quarrelsOf_75 : decode cX4_quarrelsOf 75 = .ok (.iload_n 3, 1) := by decide +kernel
theorem dX4_quarrelsOf_76 : decode cX4_quarrelsOf 76 = .ok (.iconst 1, 1) := by decide +kernel
theorem dX4_quarrelsOf_77 : decode cX4_quarrelsOf 77 = .ok (.iadd, 1) := by decide +kernel
theorem dX4_quarrelsOf_78 : decode cX4_quarrelsOf 78 = .ok (.goto 4, 3) := by decide +kernel
theorem dX4_quarrelsOf_81 : decode cX4_quarrelsOf 81 = .ok (.iload_n 3, 1) := by decide +kernel
theorem dX4_quarrelsOf_82 : decode cX4_quarrelsOf 82 = .ok (.ireturn, 1) := by decide +kernel
theorem dX4_quarrelsAmong_0 : decode cX4_quarrelsAmong 0 = .ok (.iconst 0, 1) := by decide +kernel
theorem dX4_quarrelsAmong_1 : decode cX4_quarrelsAmong 1 = .ok (.istore_n 3, 1) := by decide +kernel
theorem dX4_quarrelsAmong_2 : decode cX4_quarrelsAmong 2 = .ok (.iconst 0, 1) := by decide +kernel
theorem dX4_quarrelsAmong_3 : decode cX4_quarrelsAmong 3 = .ok (.istore 4, 2) := by decide +kernel
theorem dX4_quarrelsAmong_5 : decode cX4_quarrelsAmong 5 = .ok (.iload 4, 2) := by decide +kernel
theorem dX4_quarrelsAmong_7 : decode cX4_quarrelsAmong 7 = .ok (.iload_n 2, 1) := by decide +kernel
theorem dX4_quarrelsAmong_8 : decode cX4_quarrelsAmong 8 = .ok (.if_icmp .ge 38, 3) := by decide +kernel
theorem dX4_quarrelsAmong_11 : decode cX4_quarrelsAmong 11 = .ok (.iload 4, 2) := by decide +kernel
theorem dX4_quarrelsAmong_13 : decode cX4_quarrelsAmong 13 = .ok (.iload_n 1, 1) := by decide +kernel
theorem dX4_quarrelsAmong_14 : decode cX4_quarrelsAmong 14 = .ok (.if_icmp .eq 26, 3) := by decide +kernel
theorem dX4_quarrelsAmong_17 : decode cX4_quarrelsAmong 17 = .ok (.aload_n 0, 1) := by decide +kernel
theorem dX4_quarrelsAmong_18 : decode cX4_quarrelsAmong 18 = .ok (.getfield 18, 3) := by decide +kernel
theorem dX4_quarrelsAmong_21 : decode cX4_quarrelsAmong 21 = .ok (.iload 4, 2) := by decide +kernel
theorem dX4_quarrelsAmong_23 : decode cX4_quarrelsAmong 23 = .ok (.invokestatic 45, 3) := by decide +kernel
theorem dX4_quarrelsAmong_26 : decode cX4_quarrelsAmong 26 = .ok (.iconst (-1), 1) := by decide +kernel
theorem dX4_quarrelsAmong_27 : decode cX4_quarrelsAmong 27 = .ok (.if_icmp .eq 13, 3) := by decide +kernel
theorem dX4_quarrelsAmong_30 : decode cX4_quarrelsAmong 30 = .ok (.iload_n 3, 1) := by decide +kernel
theorem dX4_quarrelsAmong_31 : decode cX4_quarrelsAmong 31 = .ok (.aload_n 0, 1) := by decide +kernel
theorem dX4_quarrelsAmong_32 : decode cX4_quarrelsAmong 32 = .ok (.iload_n 1, 1) := by decide +kernel
theorem dX4_quarrelsAmong_33 : decode cX4_quarrelsAmong 33 = .ok (.iload 4, 2) := by decide +kernel
theorem dX4_quarrelsAmong_35 : decode cX4_quarrelsAmong 35 = .ok (.invokevirtual 72, 3) := by decide +kernel
theorem dX4_quarrelsAmong_38 : decode cX4_quarrelsAmong 38 = .ok (.iadd, 1) := by decide +kernel
theorem dX4_quarrelsAmong_39 : decode cX4_quarrelsAmong 39 = .ok (.istore_n 3, 1) := by decide +kernel
theorem dX4_quarrelsAmong_40 : decode cX4_quarrelsAmong 40 = .ok (.iinc 4 1, 3) := by decide +kernel
theorem dX4_quarrelsAmong_43 : decode cX4_quarrelsAmong 43 = .ok (.goto (-38), 3) := by decide +kernel
theorem dX4_quarrelsAmong_46 : decode cX4_quarrelsAmong 46 = .ok (.iload_n 3, 1) := by decide +kernel
theorem dX4_quarrelsAmong_47 : decode cX4_quarrelsAmong 47 = .ok (.ireturn, 1) := by decide +kernel
theorem dX4_quarrelsNow_0 : decode cX4_quarrelsNow 0 = .ok (.iconst 0, 1) := by decide +kernel
theorem dX4_quarrelsNow_1 : decode cX4_quarrelsNow 1 = .ok (.istore_n 1, 1) := by decide +kernel
theorem dX4_quarrelsNow_2 : decode cX4_quarrelsNow 2 = .ok (.iconst 0, 1) := by decide +kernel
theorem dX4_quarrelsNow_3 : decode cX4_quarrelsNow 3 = .ok (.istore_n 2, 1) := by decide +kernel
theorem dX4_quarrelsNow_4 : decode cX4_quarrelsNow 4 = .ok (.iload_n 2, 1) := by decide +kernel
theorem dX4_quarrelsNow_5 : decode cX4_quarrelsNow 5 = .ok (.bipush 7, 2) := by decide +kernel
theorem dX4_quarrelsNow_7 : decode cX4_quarrelsNow 7 = .ok (.if_icmp .ge 30, 3) := by decide +kernel
theorem dX4_quarrelsNow_10 : decode cX4_quarrelsNow 10 = .ok (.aload_n 0, 1) := by decide +kernel
theorem dX4_quarrelsNow_11 : decode cX4_quarrelsNow 11 = .ok (.getfield 18, 3) := by decide +kernel
theorem dX4_quarrelsNow_14 : decode cX4_quarrelsNow 14 = .ok (.iload_n 2, 1) := by decide +kernel
theorem dX4_quarrelsNow_15 : decode cX4_quarrelsNow 15 = .ok (.invokestatic 45, 3) := by decide +kernel
theorem dX4_quarrelsNow_18 : decode cX4_quarrelsNow 18 = .ok (.iconst (-1), 1) := by decide +kernel
theorem dX4_quarrelsNow_19 : decode cX4_quarrelsNow 19 = .ok (.if_icmp .eq 12, 3) := by decide +kernel
theorem dX4_quarrelsNow_22 : decode cX4_quarrelsNow 22 = .ok (.iload_n 1, 1) := by decide +kernel
theorem dX4_quarrelsNow_23 : decode cX4_quarrelsNow 23 = .ok (.aload_n 0, 1) := by decide +kernel
theorem dX4_quarrelsNow_24 : decode cX4_quarrelsNow 24 = .ok (.iload_n 2, 1) := by decide +kernel
theorem dX4_quarrelsNow_25 : decode cX4_quarrelsNow 25 = .ok (.iload_n 2, 1) := by decide +kernel
theorem dX4_quarrelsNow_26 : decode cX4_quarrelsNow 26 = .ok (.invokevirtual 76, 3) := by decide +kernel
theorem dX4_quarrelsNow_29 : decode cX4_quarrelsNow 29 = .ok (.iadd, 1) := by decide +kernel
theorem dX4_quarrelsNow_30 : decode cX4_quarrelsNow 30 = .ok (.istore_n 1, 1) := by decide +kernel
theorem dX4_quarrelsNow_31 : decode cX4_quarrelsNow 31 = .ok (.iinc 2 1, 3) := by decide +kernel
theorem dX4_quarrelsNow_34 : decode cX4_quarrelsNow 34 = .ok (.goto (-30), 3) := by decide +kernel
theorem dX4_quarrelsNow_37 : decode cX4_quarrelsNow 37 = .ok (.iload_n 1, 1) := by decide +kernel
theorem dX4_quarrelsNow_38 : decode cX4_quarrelsNow 38 = .ok (.ireturn, 1) := by decide +kernel
theorem dX4_find_0 : decode cX4_find 0 = .ok (.aload_n 0, 1) := by decide +kernel
theorem dX4_find_1 : decode cX4_find 1 = .ok (.iconst 0, 1) := by decide +kernel
theorem dX4_find_2 : decode cX4_find 2 = .ok (.putfield 28, 3) := by decide +kernel
theorem dX4_find_5 : decode cX4_find 5 = .ok (.iload_n 1, 1) := by decide +kernel
theorem dX4_find_6 : decode cX4_find 6 = .ok (.invokestatic 79, 3) := by decide +kernel
theorem dX4_find_9 : decode cX4_find 9 = .ok (.iload_n 2, 1) := by decide +kernel
theorem dX4_find_10 : decode cX4_find 10 = .ok (.invokestatic 79, 3) := by decide +kernel
theorem dX4_find_13 : decode cX4_find 13 = .ok (.if_icmp .gt 14, 3) := by decide +kernel
theorem dX4_find_16 : decode cX4_find 16 = .ok (.aload_n 0, 1) := by decide +kernel
theorem dX4_find_17 : decode cX4_find 17 = .ok (.iconst 0, 1) := by decide +kernel
theorem dX4_find_18 : decode cX4_find 18 = .ok (.iload_n 1, 1) := by decide +kernel
theorem dX4_find_19 : decode cX4_find 19 = .ok (.iload_n 2, 1) := by decide +kernel
theorem dX4_find_20 : decode cX4_find 20 = .ok (.aload_n 0, 1) := by decide +kernel
theorem dX4_find_21 : decode cX4_find 21 = .ok (.invokevirtual 84, 3) := by decide +kernel
theorem dX4_find_24 : decode cX4_find 24 = .ok (.invokestatic 88, 3) := by decide +kernel
theorem dX4_find_27 : decode cX4_find 27 = .ok (.return_, 1) := by decide +kernel
theorem dX4_search_0 : decode cX4_search 0 = .ok (.aload_n 0, 1) := by decide +kernel
theorem dX4_search_1 : decode cX4_search 1 = .ok (.getfield 28, 3) := by decide +kernel
theorem dX4_search_4 : decode cX4_search 4 = .ok (.ifCond .eq 13, 3) := by decide +kernel
theorem dX4_search_7 : decode cX4_search 7 = .ok (.iload 4, 2) := by decide +kernel
theorem dX4_search_9 : decode cX4_search 9 = .ok (.aload_n 0, 1) := by decide +kernel
theorem dX4_search_10 : decode cX4_search 10 = .ok (.getfield 24, 3) := by decide +kernel
theorem dX4_search_13 : decode cX4_search 13 = .ok (.if_icmp .lt 4, 3) := by decide +kernel
theorem dX4_search_16 : decode cX4_search 16 = .ok (.return_, 1) := by decide +kernel
theorem dX4_search_17 : decode cX4_search 17 = .ok (.iload_n 1, 1) := by decide +kernel
theorem dX4_search_18 : decode cX4_search 18 = .ok (.bipush 7, 2) := by decide +kernel
theorem dX4_search_20 : decode cX4_search 20 = .ok (.if_icmp .lt 26, 3) := by decide +kernel
theorem dX4_search_23 : decode cX4_search 23 = .ok (.aload_n 0, 1) := by decide +kernel
theorem dX4_search_24 : decode cX4_search 24 = .ok (.iconst 1, 1) := by decide +kernel
theorem dX4_search_25 : decode cX4_search 25 = .ok (.putfield 28, 3) := by decide +kernel
theorem dX4_search_28 : decode cX4_search 28 = .ok (.aload_n 0, 1) := by decide +kernel
theorem dX4_search_29 : decode cX4_search 29 = .ok (.iload 4, 2) := by decide +kernel
theorem dX4_search_31 : decode cX4_search 31 = .ok (.putfield 24, 3) := by decide +kernel
theorem dX4_search_34 : decode cX4_search 34 = .ok (.aload_n 0, 1) := by decide +kernel
theorem dX4_search_35 : decode cX4_search 35 = .ok (.getfield 18, 3) := by decide +kernel
theorem dX4_search_38 : decode cX4_search 38 = .ok (.aload_n 0, 1) := by decide +kernel
theorem dX4_search_39 : decode cX4_search 39 = .ok (.getfield 21, 3) := by decide +kernel
theorem dX4_search_42 : decode cX4_search 42 = .ok (.invokestatic 92, 3) := by decide +kernel
theorem dX4_search_45 : decode cX4_search 45 = .ok (.return_, 1) := by decide +kernel
theorem dX4_search_46 : decode cX4_search 46 = .ok (.iload_n 2, 1) := by decide +kernel
theorem dX4_search_47 : decode cX4_search 47 = .ok (.iload_n 1, 1) := by decide +kernel
theorem dX4_search_48 : decode cX4_search 48 = .ok (.invokestatic 60, 3) := by decide +kernel
theorem dX4_search_51 : decode cX4_search 51 = .ok (.ifCond .ne 15, 3) := by decide +kernel
theorem dX4_search_54 : decode cX4_search 54 = .ok (.aload_n 0, 1) := by decide +kernel
theorem dX4_search_55 : decode cX4_search 55 = .ok (.iload_n 1, 1) := by decide +kernel
theorem dX4_search_56 : decode cX4_search 56 = .ok (.iconst 1, 1) := by decide +kernel
theorem dX4_search_57 : decode cX4_search 57 = .ok (.iadd, 1) := by decide +kernel
theorem dX4_search_58 : decode cX4_search 58 = .ok (.iload_n 2, 1) := by decide +kernel
theorem dX4_search_59 : decode cX4_search 59 = .ok (.iload_n 3, 1) := by decide +kernel
theorem dX4_search_60 : decode cX4_search 60 = .ok (.iload 4, 2) := by decide +kernel
theorem dX4_search_62 : decode cX4_search 62 = .ok (.invokestatic 88, 3) := by decide +kernel
theorem dX4_search_65 : decode cX4_search 65 = .ok (.return_, 1) := by decide +kernel
theorem dX4_search_66 : decode cX4_search 66 = .ok (.iconst 0, 1) := by decide +kernel
theorem dX4_search_67 : decode cX4_search 67 = .ok (.istore 5, 2) := by decide +kernel
theorem dX4_search_69 : decode cX4_search 69 = .ok (.iload 5, 2) := by decide +kernel
theorem dX4_search_71 : decode cX4_search 71 = .ok (.bipush 8, 2) := by decide +kernel
theorem dX4_search_73 : decode cX4_search 73 = .ok (.if_icmp .ge 58, 3) := by decide +kernel
theorem dX4_search_76 : decode cX4_search 76 = .ok (.iload_n 3, 1) := by decide +kernel
theorem dX4_search_77 : decode cX4_search 77 = .ok (.iload 5, 2) := by decide +kernel
theorem dX4_search_79 : decode cX4_search 79 = .ok (.invokestatic 60, 3) := by decide +kernel
theorem dX4_search_82 : decode cX4_search 82 = .ok (.ifCond .ne 6, 3) := by decide +kernel
theorem dX4_search_85 : decode cX4_search 85 = .ok (.goto 40, 3) := by decide +kernel
theorem dX4_search_88 : decode cX4_search 88 = .ok (.aload_n 0, 1) := by decide +kernel
theorem dX4_search_89 : decode cX4_search 89 = .ok (.getfield 18, 3) := by decide +kernel
theorem dX4_search_92 : decode cX4_search 92 = .ok (.iload_n 1, 1) := by decide +kernel
theorem dX4_search_93 : decode cX4_search 93 = .ok (.iload 5, 2) := by decide +kernel
theorem dX4_search_95 : decode cX4_search 95 = .ok (.invokestatic 32, 3) := by decide +kernel
theorem dX4_search_98 : decode cX4_search 98 = .ok (.aload_n 0, 1) := by decide +kernel
theorem dX4_search_99 : decode cX4_search 99 = .ok (.iload_n 1, 1) := by decide +kernel
theorem dX4_search_100 : decode cX4_search 100 = .ok (.iconst 1, 1) := by decide +kernel
theorem dX4_search_101 : decode cX4_search 101 = .ok (.iadd, 1) := by decide +kernel
theorem dX4_search_102 : decode cX4_search 102 = .ok (.iload_n 2, 1) := by decide +kernel
theorem dX4_search_103 : decode cX4_search 103 = .ok (.iload_n 3, 1) := by decide +kernel
theorem dX4_search_104 : decode cX4_search 104 = .ok (.iload 5, 2) := by decide +kernel
theorem dX4_search_106 : decode cX4_search 106 = .ok (.invokestatic 53, 3) := by decide +kernel
theorem dX4_search_109 : decode cX4_search 109 = .ok (.iconst (-1), 1) := by decide +kernel
theorem dX4_search_110 : decode cX4_search 110 = .ok (.ixor, 1) := by decide +kernel
theorem dX4_search_111 : decode cX4_search 111 = .ok (.iand, 1) := by decide +kernel
theorem dX4_search_112 : decode cX4_search 112 = .ok (.iload 4, 2) := by decide +kernel
theorem dX4_search_114 : decode cX4_search 114 = .ok (.aload_n 0, 1) := by decide +kernel
theorem dX4_search_115 : decode cX4_search 115 = .ok (.iload_n 1, 1) := by decide +kernel
theorem dX4_search_116 : decode cX4_search 116 = .ok (.bipush 7, 2) := by decide +kernel
theorem dX4_search_118 : decode cX4_search 118 = .ok (.invokevirtual 76, 3) := by decide +kernel
theorem dX4_search_121 : decode cX4_search 121 = .ok (.iadd, 1) := by decide +kernel
theorem dX4_search_122 : decode cX4_search 122 = .ok (.invokestatic 88, 3) := by decide +kernel
theorem dX4_search_125 : decode cX4_search 125 = .ok (.iinc 5 1, 3) := by decide +kernel
theorem dX4_search_128 : decode cX4_search 128 = .ok (.goto (-59), 3) := by decide +kernel
theorem dX4_search_131 : decode cX4_search 131 = .ok (.aload_n 0, 1) := by decide +kernel
theorem dX4_search_132 : decode cX4_search 132 = .ok (.getfield 18, 3) := by decide +kernel
theorem dX4_search_135 : decode cX4_search 135 = .ok (.iload_n 1, 1) := by decide +kernel
theorem dX4_search_136 : decode cX4_search 136 = .ok (.iconst (-1), 1) := by decide +kernel
theorem dX4_search_137 : decode cX4_search 137 = .ok (.invokestatic 32, 3) := by decide +kernel
theorem dX4_search_140 : decode cX4_search 140 = .ok (.return_, 1) := by decide +kernel
theorem dX5_init_0 : decode cX5_init 0 = .ok (.aload_n 0, 1) := by decide +kernel
theorem dX5_init_1 : decode cX5_init 1 = .ok (.invokespecial 3, 3) := by decide +kernel
theorem dX5_init_4 : decode cX5_init 4 = .ok (.aload_n 0, 1) := by decide +kernel
theorem dX5_init_5 : decode cX5_init 5 = .ok (.sipush 400, 3) := by decide +kernel
theorem dX5_init_8 : decode cX5_init 8 = .ok (.newarray .byte, 2) := by decide +kernel
theorem dX5_init_10 : decode cX5_init 10 = .ok (.putfield 9, 3) := by decide +kernel
theorem dX5_init_13 : decode cX5_init 13 = .ok (.aload_n 0, 1) := by decide +kernel
theorem dX5_init_14 : decode cX5_init 14 = .ok (.iconst 0, 1) := by decide +kernel
theorem dX5_init_15 : decode cX5_init 15 = .ok (.putfield 15, 3) := by decide +kernel
theorem dX5_init_18 : decode cX5_init 18 = .ok (.aload_n 0, 1) := by decide +kernel
theorem dX5_init_19 : decode cX5_init 19 = .ok (.iconst 0, 1) := by decide +kernel
theorem dX5_init_20 : decode cX5_init 20 = .ok (.putfield 19, 3) := by decide +kernel
theorem dX5_init_23 : decode cX5_init 23 = .ok (.aload_n 0, 1) := by decide +kernel
theorem dX5_init_24 : decode cX5_init 24 = .ok (.iconst 0, 1) := by decide +kernel
theorem dX5_init_25 : decode cX5_init 25 = .ok (.putfield 22, 3) := by decide +kernel
theorem dX5_init_28 : decode cX5_init 28 = .ok (.aload_n 0, 1) := by decide +kernel
theorem dX5_init_29 : decode cX5_init 29 = .ok (.iconst (-1), 1) := by decide +kernel
theorem dX5_init_30 : decode cX5_init 30 = .ok (.putfield 25, 3) := by decide +kernel
theorem dX5_init_33 : decode cX5_init 33 = .ok (.return_, 1) := by decide +kernel
theorem dX5_append_0 : decode cX5_append 0 = .ok (.aload_n 0, 1) := by decide +kernel
theorem dX5_append_1 : decode cX5_append 1 = .ok (.getfield 15, 3) := by decide +kernel
theorem dX5_append_4 : decode cX5_append 4 = .ok (.ifCond .lt 15, 3) := by decide +kernel
theorem dX5_append_7 : decode cX5_append 7 = .ok (.aload_n 0, 1) := by decide +kernel
theorem dX5_append_8 : decode cX5_append 8 = .ok (.getfield 15, 3) := by decide +kernel
theorem dX5_append_11 : decode cX5_append 11 = .ok (.aload_n 0, 1) := by decide +kernel
theorem dX5_append_12 : decode cX5_append 12 = .ok (.getfield 9, 3) := by decide +kernel
theorem dX5_append_15 : decode cX5_append 15 = .ok (.arraylength, 1) := by decide +kernel
theorem dX5_append_16 : decode cX5_append 16 = .ok (.if_icmp .lt 4, 3) := by decide +kernel
theorem dX5_append_19 : decode cX5_append 19 = .ok (.return_, 1) := by decide +kernel
theorem dX5_append_20 : decode cX5_append 20 = .ok (.aload_n 0, 1) := by decide +kernel
theorem dX5_append_21 : decode cX5_append 21 = .ok (.getfield 9, 3) := by decide +kernel
theorem dX5_append_24 : decode cX5_append 24 = .ok (.aload_n 0, 1) := by decide +kernel
theorem dX5_append_25 : decode cX5_append 25 = .ok (.getfield 15, 3) := by decide +kernel
theorem dX5_append_28 : decode cX5_append 28 = .ok (.iload_n 1, 1) := by decide +kernel
theorem dX5_append_29 : decode cX5_append 29 = .ok (.i2b, 1) := by decide +kernel
theorem dX5_append_30 : decode cX5_append 30 = .ok (.bastore, 1) := by decide +kernel
theorem dX5_append_31 : decode cX5_append 31 = .ok (.aload_n 0, 1) := by decide +kernel
theorem dX5_append_32 : decode cX5_append 32 = .ok (.dup, 1) := by decide +kernel
theorem dX5_append_33 : decode cX5_append 33 = .ok (.getfield 15, 3) := by decide +kernel
theorem dX5_append_36 : decode cX5_append 36 = .ok (.iconst 1, 1) := by decide +kernel
theorem dX5_append_37 : decode cX5_append 37 = .ok (.iadd, 1) := by decide +kernel
theorem dX5_append_38 : decode cX5_append 38 = .ok (.putfield 15, 3) := by decide +kernel
theorem dX5_append_41 : decode cX5_append 41 = .ok (.return_, 1) := by decide +kernel
theorem dX5_begin_0 : decode cX5_begin 0 = .ok (.aload_n 0, 1) := by decide +kernel
theorem dX5_begin_1 : decode cX5_begin 1 = .ok (.iconst 0, 1) := by decide +kernel
theorem dX5_begin_2 : decode cX5_begin 2 = .ok (.putfield 19, 3) := by decide +kernel
theorem dX5_begin_5 : decode cX5_begin 5 = .ok (.aload_n 0, 1) := by decide +kernel
theorem dX5_begin_6 : decode cX5_begin 6 = .ok (.iconst 0, 1) := by decide +kernel
theorem dX5_begin_7 : decode cX5_begin 7 = .ok (.putfield 22, 3) := by decide +kernel
theorem dX5_begin_10 : decode cX5_begin 10 = .ok (.aload_n 0, 1) := by decide +kernel
theorem dX5_begin_11 : decode cX5_begin 11 = .ok (.iconst (-1), 1) := by decide +kernel
theorem dX5_begin_12 : decode cX5_begin 12 = .ok (.putfield 25, 3) := by decide +kernel
theorem dX5_begin_15 : decode cX5_begin 15 = .ok (.return_, 1) := by decide +kernel
theorem dX5_blame_0 : decode cX5_blame 0 = .ok (.aload_n 0, 1) := by decide +kernel
theorem dX5_blame_1 : decode cX5_blame 1 = .ok (.getfield 22, 3) := by decide +kernel
theorem dX5_blame_4 : decode cX5_blame 4 = .ok (.ifCond .eq 4, 3) := by decide +kernel
theorem dX5_blame_7 : decode cX5_blame 7 = .ok (.return_, 1) := by decide +kernel
theorem dX5_blame_8 : decode cX5_blame 8 = .ok (.aload_n 0, 1) := by decide +kernel
theorem dX5_blame_9 : decode cX5_blame 9 = .ok (.iload_n 1, 1) := by decide +kernel
theorem dX5_blame_10 : decode cX5_blame 10 = .ok (.putfield 22, 3) := by decide +kernel
theorem dX5_blame_13 : decode cX5_blame 13 = .ok (.aload_n 0, 1) := by decide +kernel
theorem dX5_blame_14 : decode cX5_blame 14 = .ok (.iload_n 2, 1) := by decide +kernel
theorem dX5_blame_15 : decode cX5_blame 15 = .ok (.putfield 25, 3) := by decide +kernel
theorem dX5_blame_18 : decode cX5_blame 18 = .ok (.return_, 1) := by decide +kernel
theorem dX5_byteAt_0 : decode cX5_byteAt 0 = .ok (.iload_n 1, 1) := by decide +kernel
theorem dX5_byteAt_1 : decode cX5_byteAt 1 = .ok (.ifCond .lt 33, 3) := by decide +kernel
theorem dX5_byteAt_4 : decode cX5_byteAt 4 = .ok (.iload_n 1, 1) := by decide +kernel
theorem dX5_byteAt_5 : decode cX5_byteAt 5 = .ok (.aload_n 0, 1) := by decide +kernel
theorem dX5_byteAt_6 : decode cX5_byteAt 6 = .ok (.getfield 15, 3) := by decide +kernel
theorem dX5_byteAt_9 : decode cX5_byteAt 9 = .ok (.if_icmp .ge 25, 3) := by decide +kernel
theorem dX5_byteAt_12 : decode cX5_byteAt 12 = .ok (.iload_n 1, 1) := by decide +kernel
theorem dX5_byteAt_13 : decode cX5_byteAt 13 = .ok (.aload_n 0, 1) := by decide +kernel
theorem dX5_byteAt_14 : decode cX5_byteAt 14 = .ok (.getfield 9, 3) := by decide +kernel
theorem dX5_byteAt_17 : decode cX5_byteAt 17 = .ok (.arraylength, 1) := by decide +kernel
theorem dX5_byteAt_18 : decode cX5_byteAt 18 = .ok (.if_icmp .ge 16, 3) := by decide +kernel
theorem dX5_byteAt_21 : decode cX5_byteAt 21 = .ok (.aload_n 0, 1) := by decide +kernel
theorem dX5_byteAt_22 : decode cX5_byteAt 22 = .ok (.getfield 9, 3) := by decide +kernel
theorem dX5_byteAt_25 : decode cX5_byteAt 25 = .ok (.iload_n 1, 1) := by decide +kernel
theorem dX5_byteAt_26 : decode cX5_byteAt 26 = .ok (.baload, 1) := by decide +kernel
theorem dX5_byteAt_27 : decode cX5_byteAt 27 = .ok (.sipush 255, 3) := by decide +kernel
theorem dX5_byteAt_30 : decode cX5_byteAt 30 = .ok (.iand, 1) := by decide +kernel
theorem dX5_byteAt_31 : decode cX5_byteAt 31 = .ok (.goto 4, 3) := by decide +kernel
theorem dX5_byteAt_34 : decode cX5_byteAt 34 = .ok (.iconst (-1), 1) := by decide +kernel
theorem dX5_byteAt_35 : decode cX5_byteAt 35 = .ok (.ireturn, 1) := by decide +kernel
theorem dX5_skipBlanks_0 : decode cX5_skipBlanks 0 = .ok (.aload_n 0, 1) := by decide +kernel
theorem dX5_skipBlanks_1 : decode cX5_skipBlanks 1 = .ok (.getfield 19, 3) := by decide +kernel
theorem dX5_skipBlanks_4 : decode cX5_skipBlanks 4 = .ok (.aload_n 0, 1) := by decide +kernel
theorem dX5_skipBlanks_5 : decode cX5_skipBlanks 5 = .ok (.getfield 15, 3) := by decide +kernel
theorem dX5_skipBlanks_8 : decode cX5_skipBlanks 8 = .ok (.if_icmp .ge 29, 3) := by decide +kernel
theorem dX5_skipBlanks_11 : decode cX5_skipBlanks 11 = .ok (.aload_n 0, 1) := by decide +kernel
theorem dX5_skipBlanks_12 : decode cX5_skipBlanks 12 = .ok (.aload_n 0, 1) := by decide +kernel
theorem dX5_skipBlanks_13 : decode cX5_skipBlanks 13 = .ok (.getfield 19, 3) := by decide +kernel
theorem dX5_skipBlanks_16 : decode cX5_skipBlanks 16 = .ok (.invokevirtual 28, 3) := by decide +kernel
theorem dX5_skipBlanks_19 : decode cX5_skipBlanks 19 = .ok (.bipush 32, 2) := by decide +kernel
theorem dX5_skipBlanks_21 : decode cX5_skipBlanks 21 = .ok (.if_icmp .ne 16, 3) := by decide +kernel
theorem dX5_skipBlanks_24 : decode cX5_skipBlanks 24 = .ok (.aload_n 0, 1) := by decide +kernel
theorem dX5_skipBlanks_25 : decode cX5_skipBlanks 25 = .ok (.dup, 1) := by decide +kernel
theorem dX5_skipBlanks_26 : decode cX5_skipBlanks 26 = .ok (.getfield 19, 3) := by decide +kernel
theorem dX5_skipBlanks_29 : decode cX5_skipBlanks 29 = .ok (.iconst 1, 1) := by decide +kernel
theorem dX5_skipBlanks_30 : decode cX5_skipBlanks 30 = .ok (.iadd, 1) := by decide +kernel
theorem dX5_skipBlanks_31 : decode cX5_skipBlanks 31 = .ok (.putfield 19, 3) := by decide +kernel
theorem dX5_skipBlanks_34 : decode cX5_skipBlanks 34 = .ok (.goto (-34), 3) := by decide +kernel
theorem dX5_skipBlanks_37 : decode cX5_skipBlanks 37 = .ok (.return_, 1) := by decide +kernel
theorem dX5_goesOn_0 : decode cX5_goesOn 0 = .ok (.aload_n 0, 1) := by decide +kernel
theorem dX5_goesOn_1 : decode cX5_goesOn 1 = .ok (.invokevirtual 32, 3) := by decide +kernel
theorem dX5_goesOn_4 : decode cX5_goesOn 4 = .ok (.aload_n 0, 1) := by decide +kernel
theorem dX5_goesOn_5 : decode cX5_goesOn 5 = .ok (.getfield 22, 3) := by decide +kernel
theorem dX5_goesOn_8 : decode cX5_goesOn 8 = .ok (.ifCond .ne 18, 3) := by decide +kernel
theorem dX5_goesOn_11 : decode cX5_goesOn 11 = .ok (.aload_n 0, 1) := by decide +kernel
theorem dX5_goesOn_12 : decode cX5_goesOn 12 = .ok (.getfield 19, 3) := by decide +kernel
theorem dX5_goesOn_15 : decode cX5_goesOn 15 = .ok (.aload_n 0, 1) := by decide +kernel
theorem dX5_goesOn_16 : decode cX5_goesOn 16 = .ok (.getfield 15, 3) := by decide +kernel
theorem dX5_goesOn_19 : decode cX5_goesOn 19 = .ok (.if_icmp .ge 7, 3) := by decide +kernel
theorem dX5_goesOn_22 : decode cX5_goesOn 22 = .ok (.iconst 1, 1) := by decide +kernel
theorem dX5_goesOn_23 : decode cX5_goesOn 23 = .ok (.goto 4, 3) := by decide +kernel
theorem dX5_goesOn_26 : decode cX5_goesOn 26 = .ok (.iconst 0, 1) := by decide +kernel
theorem dX5_goesOn_27 : decode cX5_goesOn 27 = .ok (.ireturn, 1) := by decide +kernel
theorem dX5_takeWord_0 : decode cX5_takeWord 0 = .ok (.aload_n 0, 1) := by decide +kernel
theorem dX5_takeWord_1 : decode cX5_takeWord 1 = .ok (.getfield 19, 3) := by decide +kernel
theorem dX5_takeWord_4 : decode cX5_takeWord 4 = .ok (.istore_n 2, 1) := by decide +kernel
theorem dX5_takeWord_5 : decode cX5_takeWord 5 = .ok (.iload_n 2, 1) := by decide +kernel
theorem dX5_takeWord_6 : decode cX5_takeWord 6 = .ok (.aload_n 0, 1) := by decide +kernel
theorem dX5_takeWord_7 : decode cX5_takeWord 7 = .ok (.getfield 15, 3) := by decide +kernel
theorem dX5_takeWord_10 : decode cX5_takeWord 10 = .ok (.if_icmp .ge 29, 3) := by decide +kernel
theorem dX5_takeWord_13 : decode cX5_takeWord 13 = .ok (.aload_n 0, 1) := by decide +kernel
theorem dX5_takeWord_14 : decode cX5_takeWord 14 = .ok (.iload_n 2, 1) := by decide +kernel
theorem dX5_takeWord_15 : decode cX5_takeWord 15 = .ok (.invokevirtual 28, 3) := by decide +kernel
theorem dX5_takeWord_18 : decode cX5_takeWord 18 = .ok (.bipush 97, 2) := by decide +kernel
theorem dX5_takeWord_20 : decode cX5_takeWord 20 = .ok (.if_icmp .lt 19, 3) := by decide +kernel
theorem dX5_takeWord_23 : decode cX5_takeWord 23 = .ok (.aload_n 0, 1) := by decide +kernel
theorem dX5_takeWord_24 : decode cX5_takeWord 24 = .ok (.iload_n 2, 1) := by decide +kernel
theorem dX5_takeWord_25 : decode cX5_takeWord 25 = .ok (.invokevirtual 28, 3) := by decide +kernel
theorem dX5_takeWord_28 : decode cX5_takeWord 28 = .ok (.bipush 122, 2) := by decide +kernel
theorem dX5_takeWord_30 : decode cX5_takeWord 30 = .ok (.if_icmp .gt 9, 3) := by decide +kernel
theorem dX5_takeWord_33 : decode cX5_takeWord 33 = .ok (.iinc 2 1, 3) := by decide +kernel
theorem dX5_takeWord_36 : decode cX5_takeWord 36 = .ok (.goto (-31), 3) := by decide +kernel
theorem dX5_takeWord_39 : decode cX5_takeWord 39 = .ok (.iload_n 2, 1) := by decide +kernel
theorem dX5_takeWord_40 : decode cX5_takeWord 40 = .ok (.aload_n 0, 1) := by decide +kernel
theorem dX5_takeWord_41 : decode cX5_takeWord 41 = .ok (.getfield 19, 3) := by decide +kernel
theorem dX5_takeWord_44 : decode cX5_takeWord 44 = .ok (.isub, 1) := by decide +kernel
theorem dX5_takeWord_45 : decode cX5_takeWord 45 = .ok (.aload_n 1, 1) := by decide +kernel
theorem dX5_takeWord_46 : decode cX5_takeWord 46 = .ok (.invokevirtual 35, 3) := by decide +kernel
theorem dX5_takeWord_49 : decode cX5_takeWord 49 = .ok (.if_icmp .eq 5, 3) := by decide +kernel
theorem dX5_takeWord_52 : decode cX5_takeWord 52 = .ok (.iconst 0, 1) := by decide +kernel
theorem dX5_takeWord_53 : decode cX5_takeWord 53 = .ok (.ireturn, 1) := by decide +kernel
theorem dX5_takeWord_54 : decode cX5_takeWord 54 = .ok (.iconst 0, 1) := by decide +kernel
theorem dX5_takeWord_55 : decode cX5_takeWord 55 = .ok (.istore_n 3, 1) := by decide +kernel
theorem dX5_takeWord_56 : decode cX5_takeWord 56 = .ok (.iload_n 3, 1) := by decide +kernel
theorem dX5_takeWord_57 : decode cX5_takeWord 57 = .ok (.aload_n 1, 1) := by decide +kernel
theorem dX5_takeWord_58 : decode cX5_takeWord 58 = .ok (.invokevirtual 35, 3) := by decide +kernel
theorem dX5_takeWord_61 : decode cX5_takeWord 61 = .ok (.if_icmp .ge 29, 3) := by decide +kernel
theorem dX5_takeWord_64 : decode cX5_takeWord 64 = .ok (.aload_n 0, 1) := by decide +kernel
theorem dX5_takeWord_65 : decode cX5_takeWord 65 = .ok (.aload_n 0, 1) := by decide +kernel
theorem dX5_takeWord_66 : decode cX5_takeWord 66 = .ok (.getfield 19, 3) := by decide +kernel
theorem dX5_takeWord_69 : decode cX5_takeWord 69 = .ok (.iload_n 3, 1) := by decide +kernel
theorem dX5_takeWord_70 : decode cX5_takeWord 70 = .ok (.iadd, 1) := by decide +kernel
theorem dX5_takeWord_71 : decode cX5_takeWord 71 = .ok (.invokevirtual 28, 3) := by decide +kernel
theorem dX5_takeWord_74 : decode cX5_takeWord 74 = .ok (.aload_n 1, 1) := by decide +kernel
theorem dX5_takeWord_75 : decode cX5_takeWord 75 = .ok (.iload_n 3, 1) := by decide +kernel
theorem dX5_takeWord_76 : decode cX5_takeWord 76 = .ok (.invokevirtual 40, 3) := by decide +kernel
theorem dX5_takeWord_79 : decode cX5_takeWord 79 = .ok (.if_icmp .eq 5, 3) := by decide +kernel
theorem dX5_takeWord_82 : decode cX5_takeWord 82 = .ok (.iconst 0, 1) := by decide +kernel
theorem dX5_takeWord_83 : decode cX5_takeWord 83 = .ok (.ireturn, 1) := by decide +kernel
theorem dX5_takeWord_84 : decode cX5_takeWord 84 = .ok (.iinc 3 1, 3) := by decide +kernel
theorem dX5_takeWord_87 : decode cX5_takeWord 87 = .ok (.goto (-31), 3) := by decide +kernel
theorem dX5_takeWord_90 : decode cX5_takeWord 90 = .ok (.aload_n 0, 1) := by decide +kernel
theorem dX5_takeWord_91 : decode cX5_takeWord 91 = .ok (.iload_n 2, 1) := by decide +kernel
theorem dX5_takeWord_92 : decode cX5_takeWord 92 = .ok (.putfield 19, 3) := by decide +kernel
theorem dX5_takeWord_95 : decode cX5_takeWord 95 = .ok (.iconst 1, 1) := by decide +kernel
theorem dX5_takeWord_96 : decode cX5_takeWord 96 = .ok (.ireturn, 1) := by decide +kernel
theorem dX5_takeNumber_0 : decode cX5_takeNumber 0 = .ok (.aload_n 0, 1) := by decide +kernel
theorem dX5_takeNumber_1 : decode cX5_takeNumber 1 = .ok (.invokevirtual 32, 3) := by decide +kernel
theorem dX5_takeNumber_4 : decode cX5_takeNumber 4 = .ok (.aload_n 0, 1) := by decide +kernel
theorem dX5_takeNumber_5 : decode cX5_takeNumber 5 = .ok (.getfield 19, 3) := by decide +kernel
theorem dX5_takeNumber_8 : decode cX5_takeNumber 8 = .ok (.istore_n 3, 1) := by decide +kernel
theorem dX5_takeNumber_9 : decode cX5_takeNumber 9 = .ok (.iconst 0, 1) := by decide +kernel
theorem dX5_takeNumber_10 : decode cX5_takeNumber 10 = .ok (.istore 4, 2) := by decide +kernel
theorem dX5_takeNumber_12 : decode cX5_takeNumber 12 = .ok (.aload_n 0, 1) := by decide +kernel
theorem dX5_takeNumber_13 : decode cX5_takeNumber 13 = .ok (.getfield 19, 3) := by decide +kernel
theorem dX5_takeNumber_16 : decode cX5_takeNumber 16 = .ok (.aload_n 0, 1) := by decide +kernel
theorem dX5_takeNumber_17 : decode cX5_takeNumber 17 = .ok (.getfield 15, 3) := by decide +kernel
theorem dX5_takeNumber_20 : decode cX5_takeNumber 20 = .ok (.if_icmp .ge 71, 3) := by decide +kernel
theorem dX5_takeNumber_23 : decode cX5_takeNumber 23 = .ok (.aload_n 0, 1) := by decide +kernel
theorem dX5_takeNumber_24 : decode cX5_takeNumber 24 = .ok (.aload_n 0, 1) := by decide +kernel
theorem dX5_takeNumber_25 : decode cX5_takeNumber 25 = .ok (.getfield 19, 3) := by decide +kernel
theorem dX5_takeNumber_28 : decode cX5_takeNumber 28 = .ok (.invokevirtual 28, 3) := by decide +kernel
theorem dX5_takeNumber_31 : decode cX5_takeNumber 31 = .ok (.bipush 48, 2) := by decide +kernel
theorem dX5_takeNumber_33 : decode cX5_takeNumber 33 = .ok (.if_icmp .lt 58, 3) := by decide +kernel
theorem dX5_takeNumber_36 : decode cX5_takeNumber 36 = .ok (.aload_n 0, 1) := by decide +kernel
theorem dX5_takeNumber_37 : decode cX5_takeNumber 37 = .ok (.aload_n 0, 1) := by decide +kernel
theorem dX5_takeNumber_38 : decode cX5_takeNumber 38 = .ok (.getfield 19, 3) := by decide +kernel
theorem dX5_takeNumber_41 : decode cX5_takeNumber 41 = .ok (.invokevirtual 28, 3) := by decide +kernel
theorem dX5_takeNumber_44 : decode cX5_takeNumber 44 = .ok (.bipush 57, 2) := by decide +kernel
theorem dX5_takeNumber_46 : decode cX5_takeNumber 46 = .ok (.if_icmp .gt 45, 3) := by decide +kernel
theorem dX5_takeNumber_49 : decode cX5_takeNumber 49 = .ok (.aload_n 0, 1) := by decide +kernel
theorem dX5_takeNumber_50 : decode cX5_takeNumber 50 = .ok (.getfield 19, 3) := by decide +kernel
theorem dX5_takeNumber_53 : decode cX5_takeNumber 53 = .ok (.iload_n 3, 1) := by decide +kernel
theorem dX5_takeNumber_54 : decode cX5_takeNumber 54 = .ok (.isub, 1) := by decide +kernel
theorem dX5_takeNumber_55 : decode cX5_takeNumber 55 = .ok (.iconst 3, 1) := by decide +kernel
theorem dX5_takeNumber_56 : decode cX5_takeNumber 56 = .ok (.if_icmp .ge 22, 3) := by decide +kernel
theorem dX5_takeNumber_59 : decode cX5_takeNumber 59 = .ok (.iload 4, 2) := by decide +kernel
theorem dX5_takeNumber_61 : decode cX5_takeNumber 61 = .ok (.bipush 10, 2) := by decide +kernel
theorem dX5_takeNumber_63 : decode cX5_takeNumber 63 = .ok (.imul, 1) := by decide +kernel
theorem dX5_takeNumber_64 : decode cX5_takeNumber 64 = .ok (.aload_n 0, 1) := by decide +kernel
theorem dX5_takeNumber_65 : decode cX5_takeNumber 65 = .ok (.aload_n 0, 1) := by decide +kernel
theorem dX5_takeNumber_66 : decode cX5_takeNumber 66 = .ok (.getfield 19, 3) := by decide +kernel
theorem dX5_takeNumber_69 : decode cX5_takeNumber 69 = .ok (.invokevirtual 28, 3) := by decide +kernel
theorem dX5_takeNumber_72 : decode cX5_takeNumber 72 = .ok (.iadd, 1) := by decide +kernel
theorem dX5_takeNumber_73 : decode cX5_takeNumber 73 = .ok (.bipush 48, 2) := by decide +kernel
theorem dX5_takeNumber_75 : decode cX5_takeNumber 75 = .ok (.isub, 1) := by decide +kernel
theorem dX5_takeNumber_76 : decode cX5_takeNumber 76 = .ok (.istore 4, 2) := by decide +kernel
theorem dX5_takeNumber_78 : decode cX5_takeNumber 78 = .ok (.aload_n 0, 1) := by decide +kernel
theorem dX5_takeNumber_79 : decode cX5_takeNumber 79 = .ok (.dup, 1) := by decide +kernel
theorem dX5_takeNumber_80 : decode cX5_takeNumber 80 = .ok (.getfield 19, 3) := by decide +kernel
theorem dX5_takeNumber_83 : decode cX5_takeNumber 83 = .ok (.iconst 1, 1) := by decide +kernel
theorem dX5_takeNumber_84 : decode cX5_takeNumber 84 = .ok (.iadd, 1) := by decide +kernel
theorem dX5_takeNumber_85 : decode cX5_takeNumber 85 = .ok (.putfield 19, 3) := by decide +kernel
theorem dX5_takeNumber_88 : decode cX5_takeNumber 88 = .ok (.goto (-76), 3) := by decide +kernel
theorem dX5_takeNumber_91 : decode cX5_takeNumber 91 = .ok (.aload_n 0, 1) := by decide +kernel
theorem dX5_takeNumber_92 : decode cX5_takeNumber 92 = .ok (.getfield 19, 3) := by decide +kernel
theorem dX5_takeNumber_95 : decode cX5_takeNumber 95 = .ok (.iload_n 3, 1) := by decide +kernel
theorem dX5_takeNumber_96 : decode cX5_takeNumber 96 = .ok (.if_icmp .ne 12, 3) := by decide +kernel
theorem dX5_takeNumber_99 : decode cX5_takeNumber 99 = .ok (.aload_n 0, 1) := by decide +kernel
theorem dX5_takeNumber_100 : decode cX5_takeNumber 100 = .ok (.iconst 1, 1) := by decide +kernel
theorem dX5_takeNumber_101 : decode cX5_takeNumber 101 = .ok (.iload_n 3, 1) := by decide +kernel
theorem dX5_takeNumber_102 : decode cX5_takeNumber 102 = .ok (.invokevirtual 44, 3) := by decide +kernel
theorem dX5_takeNumber_105 : decode cX5_takeNumber 105 = .ok (.goto 31, 3) := by decide +kernel
theorem dX5_takeNumber_108 : decode cX5_takeNumber 108 = .ok (.aload_n 0, 1) := by decide +kernel
theorem dX5_takeNumber_109 : decode cX5_takeNumber 109 = .ok (.getfield 19, 3) := by decide +kernel
theorem dX5_takeNumber_112 : decode cX5_takeNumber 112 = .ok (.iload_n 3, 1) := by decide +kernel
theorem dX5_takeNumber_113 : decode cX5_takeNumber 113 = .ok (.isub, 1) := by decide +kernel
theorem dX5_takeNumber_114 : decode cX5_takeNumber 114 = .ok (.iconst 3, 1) := by decide +kernel
theorem dX5_takeNumber_115 : decode cX5_takeNumber 115 = .ok (.if_icmp .gt 15, 3) := by decide +kernel
theorem dX5_takeNumber_118 : decode cX5_takeNumber 118 = .ok (.iload 4, 2) := by decide +kernel
theorem dX5_takeNumber_120 : decode cX5_takeNumber 120 = .ok (.iload_n 1, 1) := by decide +kernel
theorem dX5_takeNumber_121 : decode cX5_takeNumber 121 = .ok (.if_icmp .lt 9, 3) := by decide +kernel
theorem dX5_takeNumber_124 : decode cX5_takeNumber 124 = .ok (.iload 4, 2) := by decide +kernel
theorem dX5_takeNumber_126 : decode cX5_takeNumber 126 = .ok (.iload_n 2, 1) := by decide +kernel
theorem dX5_takeNumber_127 : decode cX5_takeNumber 127 = .ok (.if_icmp .le 9, 3) := by decide +kernel
theorem dX5_takeNumber_130 : decode cX5_takeNumber 130 = .ok (.aload_n 0, 1) := by decide +kernel
theorem dX5_takeNumber_131 : decode cX5_takeNumber 131 = .ok (.iconst 2, 1) := by decide +kernel
theorem dX5_takeNumber_132 : decode cX5_takeNumber 132 = .ok (.iload_n 3, 1) := by decide +kernel
theorem dX5_takeNumber_133 : decode cX5_takeNumber 133 = .ok (.invokevirtual 44, 3) := by decide +kernel
theorem dX5_takeNumber_136 : decode cX5_takeNumber 136 = .ok (.iload 4, 2) := by decide +kernel
end
section
theorem dX5_takeNumber_138 : decode cX5_takeNumber 138 = .ok (.ireturn, 1) := by decide +kernel
theorem dX5_takeStop_0 : decode cX5_takeStop 0 = .ok (.aload_n 0, 1) := by decide +kernel
theorem dX5_takeStop_1 : decode cX5_takeStop 1 = .ok (.invokevirtual 32, 3) := by decide +kernel
theorem dX5_takeStop_4 : decode cX5_takeStop 4 = .ok (.aload_n 0, 1) := by decide +kernel
theorem dX5_takeStop_5 : decode cX5_takeStop 5 = .ok (.aload_n 0, 1) := by decide +kernel
theorem dX5_takeStop_6 : decode cX5_takeStop 6 = .ok (.getfield 19, 3) := by decide +kernel
theorem dX5_takeStop_9 : decode cX5_takeStop 9 = .ok (.invokevirtual 28, 3) := by decide +kernel
theorem dX5_takeStop_12 : decode cX5_takeStop 12 = .ok (.bipush 59, 2) := by decide +kernel
theorem dX5_takeStop_14 : decode cX5_takeStop 14 = .ok (.if_icmp .ne 16, 3) := by decide +kernel
theorem dX5_takeStop_17 : decode cX5_takeStop 17 = .ok (.aload_n 0, 1) := by decide +kernel
theorem dX5_takeStop_18 : decode cX5_takeStop 18 = .ok (.dup, 1) := by decide +kernel
theorem dX5_takeStop_19 : decode cX5_takeStop 19 = .ok (.getfield 19, 3) := by decide +kernel
theorem dX5_takeStop_22 : decode cX5_takeStop 22 = .ok (.iconst 1, 1) := by decide +kernel
theorem dX5_takeStop_23 : decode cX5_takeStop 23 = .ok (.iadd, 1) := by decide +kernel
theorem dX5_takeStop_24 : decode cX5_takeStop 24 = .ok (.putfield 19, 3) := by decide +kernel
theorem dX5_takeStop_27 : decode cX5_takeStop 27 = .ok (.goto 12, 3) := by decide +kernel
theorem dX5_takeStop_30 : decode cX5_takeStop 30 = .ok (.aload_n 0, 1) := by decide +kernel
theorem dX5_takeStop_31 : decode cX5_takeStop 31 = .ok (.iconst 1, 1) := by decide +kernel
theorem dX5_takeStop_32 : decode cX5_takeStop 32 = .ok (.aload_n 0, 1) := by decide +kernel
theorem dX5_takeStop_33 : decode cX5_takeStop 33 = .ok (.getfield 19, 3) := by decide +kernel
theorem dX5_takeStop_36 : decode cX5_takeStop 36 = .ok (.invokevirtual 44, 3) := by decide +kernel
theorem dX5_takeStop_39 : decode cX5_takeStop 39 = .ok (.return_, 1) := by decide +kernel
theorem dX6_init_0 : decode cX6_init 0 = .ok (.aload_n 0, 1) := by decide +kernel
theorem dX6_init_1 : decode cX6_init 1 = .ok (.invokespecial 1, 3) := by decide +kernel
theorem dX6_init_4 : decode cX6_init 4 = .ok (.aload_n 0, 1) := by decide +kernel
theorem dX6_init_5 : decode cX6_init 5 = .ok (.new 7, 3) := by decide +kernel
theorem dX6_init_8 : decode cX6_init 8 = .ok (.dup, 1) := by decide +kernel
theorem dX6_init_9 : decode cX6_init 9 = .ok (.invokespecial 9, 3) := by decide +kernel
theorem dX6_init_12 : decode cX6_init 12 = .ok (.putfield 10, 3) := by decide +kernel
theorem dX6_init_15 : decode cX6_init 15 = .ok (.aload_n 0, 1) := by decide +kernel
theorem dX6_init_16 : decode cX6_init 16 = .ok (.new 16, 3) := by decide +kernel
theorem dX6_init_19 : decode cX6_init 19 = .ok (.dup, 1) := by decide +kernel
theorem dX6_init_20 : decode cX6_init 20 = .ok (.invokespecial 18, 3) := by decide +kernel
theorem dX6_init_23 : decode cX6_init 23 = .ok (.putfield 19, 3) := by decide +kernel
theorem dX6_init_26 : decode cX6_init 26 = .ok (.aload_n 0, 1) := by decide +kernel
theorem dX6_init_27 : decode cX6_init 27 = .ok (.new 16, 3) := by decide +kernel
theorem dX6_init_30 : decode cX6_init 30 = .ok (.dup, 1) := by decide +kernel
theorem dX6_init_31 : decode cX6_init 31 = .ok (.invokespecial 18, 3) := by decide +kernel
theorem dX6_init_34 : decode cX6_init 34 = .ok (.putfield 23, 3) := by decide +kernel
theorem dX6_init_37 : decode cX6_init 37 = .ok (.aload_n 0, 1) := by decide +kernel
theorem dX6_init_38 : decode cX6_init 38 = .ok (.new 26, 3) := by decide +kernel
theorem dX6_init_41 : decode cX6_init 41 = .ok (.dup, 1) := by decide +kernel
theorem dX6_init_42 : decode cX6_init 42 = .ok (.invokespecial 28, 3) := by decide +kernel
theorem dX6_init_45 : decode cX6_init 45 = .ok (.putfield 29, 3) := by decide +kernel
theorem dX6_init_48 : decode cX6_init 48 = .ok (.aload_n 0, 1) := by decide +kernel
theorem dX6_init_49 : decode cX6_init 49 = .ok (.new 26, 3) := by decide +kernel
theorem dX6_init_52 : decode cX6_init 52 = .ok (.dup, 1) := by decide +kernel
theorem dX6_init_53 : decode cX6_init 53 = .ok (.invokespecial 28, 3) := by decide +kernel
theorem dX6_init_56 : decode cX6_init 56 = .ok (.putfield 33, 3) := by decide +kernel
theorem dX6_init_59 : decode cX6_init 59 = .ok (.aload_n 0, 1) := by decide +kernel
theorem dX6_init_60 : decode cX6_init 60 = .ok (.new 26, 3) := by decide +kernel
theorem dX6_init_63 : decode cX6_init 63 = .ok (.dup, 1) := by decide +kernel
theorem dX6_init_64 : decode cX6_init 64 = .ok (.invokespecial 28, 3) := by decide +kernel
theorem dX6_init_67 : decode cX6_init 67 = .ok (.putfield 36, 3) := by decide +kernel
theorem dX6_init_70 : decode cX6_init 70 = .ok (.aload_n 0, 1) := by decide +kernel
theorem dX6_init_71 : decode cX6_init 71 = .ok (.new 26, 3) := by decide +kernel
theorem dX6_init_74 : decode cX6_init 74 = .ok (.dup, 1) := by decide +kernel
theorem dX6_init_75 : decode cX6_init 75 = .ok (.invokespecial 28, 3) := by decide +kernel
theorem dX6_init_78 : decode cX6_init 78 = .ok (.putfield 39, 3) := by decide +kernel
theorem dX6_init_81 : decode cX6_init 81 = .ok (.aload_n 0, 1) := by decide +kernel
theorem dX6_init_82 : decode cX6_init 82 = .ok (.iconst 0, 1) := by decide +kernel
theorem dX6_init_83 : decode cX6_init 83 = .ok (.putfield 42, 3) := by decide +kernel
theorem dX6_init_86 : decode cX6_init 86 = .ok (.aload_n 0, 1) := by decide +kernel
theorem dX6_init_87 : decode cX6_init 87 = .ok (.iconst 0, 1) := by decide +kernel
theorem dX6_init_88 : decode cX6_init 88 = .ok (.putfield 46, 3) := by decide +kernel
theorem dX6_init_91 : decode cX6_init 91 = .ok (.aload_n 0, 1) := by decide +kernel
theorem dX6_init_92 : decode cX6_init 92 = .ok (.new 49, 3) := by decide +kernel
theorem dX6_init_95 : decode cX6_init 95 = .ok (.dup, 1) := by decide +kernel
theorem dX6_init_96 : decode cX6_init 96 = .ok (.invokespecial 51, 3) := by decide +kernel
theorem dX6_init_99 : decode cX6_init 99 = .ok (.putfield 52, 3) := by decide +kernel
theorem dX6_init_102 : decode cX6_init 102 = .ok (.aload_n 0, 1) := by decide +kernel
theorem dX6_init_103 : decode cX6_init 103 = .ok (.new 56, 3) := by decide +kernel
theorem dX6_init_106 : decode cX6_init 106 = .ok (.dup, 1) := by decide +kernel
theorem dX6_init_107 : decode cX6_init 107 = .ok (.invokespecial 58, 3) := by decide +kernel
theorem dX6_init_110 : decode cX6_init 110 = .ok (.putfield 59, 3) := by decide +kernel
theorem dX6_init_113 : decode cX6_init 113 = .ok (.aload_n 0, 1) := by decide +kernel
theorem dX6_init_114 : decode cX6_init 114 = .ok (.new 63, 3) := by decide +kernel
theorem dX6_init_117 : decode cX6_init 117 = .ok (.dup, 1) := by decide +kernel
theorem dX6_init_118 : decode cX6_init 118 = .ok (.invokespecial 65, 3) := by decide +kernel
theorem dX6_init_121 : decode cX6_init 121 = .ok (.putfield 66, 3) := by decide +kernel
theorem dX6_init_124 : decode cX6_init 124 = .ok (.aload_n 0, 1) := by decide +kernel
theorem dX6_init_125 : decode cX6_init 125 = .ok (.getfield 19, 3) := by decide +kernel
theorem dX6_init_128 : decode cX6_init 128 = .ok (.iconst 0, 1) := by decide +kernel
theorem dX6_init_129 : decode cX6_init 129 = .ok (.invokevirtual 70, 3) := by decide +kernel
theorem dX6_init_132 : decode cX6_init 132 = .ok (.aload_n 0, 1) := by decide +kernel
theorem dX6_init_133 : decode cX6_init 133 = .ok (.getfield 19, 3) := by decide +kernel
theorem dX6_init_136 : decode cX6_init 136 = .ok (.iconst 1, 1) := by decide +kernel
theorem dX6_init_137 : decode cX6_init 137 = .ok (.invokevirtual 70, 3) := by decide +kernel
theorem dX6_init_140 : decode cX6_init 140 = .ok (.aload_n 0, 1) := by decide +kernel
theorem dX6_init_141 : decode cX6_init 141 = .ok (.getfield 29, 3) := by decide +kernel
theorem dX6_init_144 : decode cX6_init 144 = .ok (.invokevirtual 74, 3) := by decide +kernel
theorem dX6_init_147 : decode cX6_init 147 = .ok (.return_, 1) := by decide +kernel
theorem dX6_feed_0 : decode cX6_feed 0 = .ok (.iload_n 1, 1) := by decide +kernel
theorem dX6_feed_1 : decode cX6_feed 1 = .ok (.iconst 1, 1) := by decide +kernel
theorem dX6_feed_2 : decode cX6_feed 2 = .ok (.if_icmp .lt 9, 3) := by decide +kernel
theorem dX6_feed_5 : decode cX6_feed 5 = .ok (.iload_n 1, 1) := by decide +kernel
theorem dX6_feed_6 : decode cX6_feed 6 = .ok (.bipush 8, 2) := by decide +kernel
theorem dX6_feed_8 : decode cX6_feed 8 = .ok (.if_icmp .le 6, 3) := by decide +kernel
theorem dX6_feed_11 : decode cX6_feed 11 = .ok (.ldc 77, 2) := by decide +kernel
theorem dX6_feed_13 : decode cX6_feed 13 = .ok (.ireturn, 1) := by decide +kernel
theorem dX6_feed_14 : decode cX6_feed 14 = .ok (.aload_n 0, 1) := by decide +kernel
theorem dX6_feed_15 : decode cX6_feed 15 = .ok (.getfield 10, 3) := by decide +kernel
theorem dX6_feed_18 : decode cX6_feed 18 = .ok (.getfield 78, 3) := by decide +kernel
theorem dX6_feed_21 : decode cX6_feed 21 = .ok (.iload_n 1, 1) := by decide +kernel
theorem dX6_feed_22 : decode cX6_feed 22 = .ok (.iadd, 1) := by decide +kernel
theorem dX6_feed_23 : decode cX6_feed 23 = .ok (.sipush 400, 3) := by decide +kernel
theorem dX6_feed_26 : decode cX6_feed 26 = .ok (.if_icmp .le 6, 3) := by decide +kernel
theorem dX6_feed_29 : decode cX6_feed 29 = .ok (.ldc 82, 2) := by decide +kernel
theorem dX6_feed_31 : decode cX6_feed 31 = .ok (.ireturn, 1) := by decide +kernel
theorem dX6_feed_32 : decode cX6_feed 32 = .ok (.iload_n 1, 1) := by decide +kernel
theorem dX6_feed_33 : decode cX6_feed 33 = .ok (.iconst 1, 1) := by decide +kernel
theorem dX6_feed_34 : decode cX6_feed 34 = .ok (.isub, 1) := by decide +kernel
theorem dX6_feed_35 : decode cX6_feed 35 = .ok (.istore 4, 2) := by decide +kernel
theorem dX6_feed_37 : decode cX6_feed 37 = .ok (.iload 4, 2) := by decide +kernel
theorem dX6_feed_39 : decode cX6_feed 39 = .ok (.ifCond .lt 28, 3) := by decide +kernel
theorem dX6_feed_42 : decode cX6_feed 42 = .ok (.aload_n 0, 1) := by decide +kernel
theorem dX6_feed_43 : decode cX6_feed 43 = .ok (.getfield 10, 3) := by decide +kernel
theorem dX6_feed_46 : decode cX6_feed 46 = .ok (.lload_n 2, 1) := by decide +kernel
theorem dX6_feed_47 : decode cX6_feed 47 = .ok (.bipush 8, 2) := by decide +kernel
theorem dX6_feed_49 : decode cX6_feed 49 = .ok (.iload 4, 2) := by decide +kernel
theorem dX6_feed_51 : decode cX6_feed 51 = .ok (.imul, 1) := by decide +kernel
theorem dX6_feed_52 : decode cX6_feed 52 = .ok (.lushr, 1) := by decide +kernel
theorem dX6_feed_53 : decode cX6_feed 53 = .ok (.l2i, 1) := by decide +kernel
theorem dX6_feed_54 : decode cX6_feed 54 = .ok (.sipush 255, 3) := by decide +kernel
theorem dX6_feed_57 : decode cX6_feed 57 = .ok (.iand, 1) := by decide +kernel
theorem dX6_feed_58 : decode cX6_feed 58 = .ok (.invokevirtual 83, 3) := by decide +kernel
theorem dX6_feed_61 : decode cX6_feed 61 = .ok (.iinc 4 (-1), 3) := by decide +kernel
theorem dX6_feed_64 : decode cX6_feed 64 = .ok (.goto (-27), 3) := by decide +kernel
theorem dX6_feed_67 : decode cX6_feed 67 = .ok (.aload_n 0, 1) := by decide +kernel
theorem dX6_feed_68 : decode cX6_feed 68 = .ok (.getfield 10, 3) := by decide +kernel
theorem dX6_feed_71 : decode cX6_feed 71 = .ok (.getfield 78, 3) := by decide +kernel
theorem dX6_feed_74 : decode cX6_feed 74 = .ok (.ireturn, 1) := by decide +kernel
theorem dX6_parish_0 : decode cX6_parish 0 = .ok (.aload_n 0, 1) := by decide +kernel
theorem dX6_parish_1 : decode cX6_parish 1 = .ok (.getfield 33, 3) := by decide +kernel
theorem dX6_parish_4 : decode cX6_parish 4 = .ok (.aload_n 0, 1) := by decide +kernel
theorem dX6_parish_5 : decode cX6_parish 5 = .ok (.getfield 10, 3) := by decide +kernel
theorem dX6_parish_8 : decode cX6_parish 8 = .ok (.invokevirtual 86, 3) := by decide +kernel
theorem dX6_parish_11 : decode cX6_parish 11 = .ok (.aload_n 0, 1) := by decide +kernel
theorem dX6_parish_12 : decode cX6_parish 12 = .ok (.getfield 10, 3) := by decide +kernel
theorem dX6_parish_15 : decode cX6_parish 15 = .ok (.iconst 0, 1) := by decide +kernel
theorem dX6_parish_16 : decode cX6_parish 16 = .ok (.putfield 78, 3) := by decide +kernel
theorem dX6_parish_19 : decode cX6_parish 19 = .ok (.aload_n 0, 1) := by decide +kernel
theorem dX6_parish_20 : decode cX6_parish 20 = .ok (.getfield 10, 3) := by decide +kernel
theorem dX6_parish_23 : decode cX6_parish 23 = .ok (.getfield 90, 3) := by decide +kernel
theorem dX6_parish_26 : decode cX6_parish 26 = .ok (.ifCond .eq 14, 3) := by decide +kernel
theorem dX6_parish_29 : decode cX6_parish 29 = .ok (.bipush (-10), 2) := by decide +kernel
theorem dX6_parish_31 : decode cX6_parish 31 = .ok (.aload_n 0, 1) := by decide +kernel
theorem dX6_parish_32 : decode cX6_parish 32 = .ok (.getfield 10, 3) := by decide +kernel
theorem dX6_parish_35 : decode cX6_parish 35 = .ok (.getfield 90, 3) := by decide +kernel
theorem dX6_parish_38 : decode cX6_parish 38 = .ok (.isub, 1) := by decide +kernel
theorem dX6_parish_39 : decode cX6_parish 39 = .ok (.ireturn, 1) := by decide +kernel
theorem dX6_parish_40 : decode cX6_parish 40 = .ok (.aload_n 0, 1) := by decide +kernel
theorem dX6_parish_41 : decode cX6_parish 41 = .ok (.getfield 33, 3) := by decide +kernel
theorem dX6_parish_44 : decode cX6_parish 44 = .ok (.invokevirtual 74, 3) := by decide +kernel
theorem dX6_parish_47 : decode cX6_parish 47 = .ok (.aload_n 0, 1) := by decide +kernel
theorem dX6_parish_48 : decode cX6_parish 48 = .ok (.getfield 33, 3) := by decide +kernel
theorem dX6_parish_51 : decode cX6_parish 51 = .ok (.aload_n 0, 1) := by decide +kernel
theorem dX6_parish_52 : decode cX6_parish 52 = .ok (.getfield 29, 3) := by decide +kernel
theorem dX6_parish_55 : decode cX6_parish 55 = .ok (.getfield 93, 3) := by decide +kernel
theorem dX6_parish_58 : decode cX6_parish 58 = .ok (.putfield 93, 3) := by decide +kernel
theorem dX6_parish_61 : decode cX6_parish 61 = .ok (.aload_n 0, 1) := by decide +kernel
theorem dX6_parish_62 : decode cX6_parish 62 = .ok (.getfield 29, 3) := by decide +kernel
theorem dX6_parish_65 : decode cX6_parish 65 = .ok (.aload_n 0, 1) := by decide +kernel
theorem dX6_parish_66 : decode cX6_parish 66 = .ok (.getfield 33, 3) := by decide +kernel
theorem dX6_parish_69 : decode cX6_parish 69 = .ok (.invokevirtual 96, 3) := by decide +kernel
theorem dX6_parish_72 : decode cX6_parish 72 = .ok (.aload_n 0, 1) := by decide +kernel
theorem dX6_parish_73 : decode cX6_parish 73 = .ok (.getfield 52, 3) := by decide +kernel
theorem dX6_parish_76 : decode cX6_parish 76 = .ok (.iconst 0, 1) := by decide +kernel
theorem dX6_parish_77 : decode cX6_parish 77 = .ok (.putfield 100, 3) := by decide +kernel
theorem dX6_parish_80 : decode cX6_parish 80 = .ok (.aload_n 0, 1) := by decide +kernel
theorem dX6_parish_81 : decode cX6_parish 81 = .ok (.iconst 0, 1) := by decide +kernel
theorem dX6_parish_82 : decode cX6_parish 82 = .ok (.putfield 42, 3) := by decide +kernel
theorem dX6_parish_85 : decode cX6_parish 85 = .ok (.aload_n 0, 1) := by decide +kernel
theorem dX6_parish_86 : decode cX6_parish 86 = .ok (.iconst 0, 1) := by decide +kernel
theorem dX6_parish_87 : decode cX6_parish 87 = .ok (.putfield 46, 3) := by decide +kernel
theorem dX6_parish_90 : decode cX6_parish 90 = .ok (.aload_n 0, 1) := by decide +kernel
theorem dX6_parish_91 : decode cX6_parish 91 = .ok (.getfield 29, 3) := by decide +kernel
theorem dX6_parish_94 : decode cX6_parish 94 = .ok (.getfield 103, 3) := by decide +kernel
theorem dX6_parish_97 : decode cX6_parish 97 = .ok (.ireturn, 1) := by decide +kernel
theorem dX6_custom_0 : decode cX6_custom 0 = .ok (.aload_n 0, 1) := by decide +kernel
theorem dX6_custom_1 : decode cX6_custom 1 = .ok (.getfield 23, 3) := by decide +kernel
theorem dX6_custom_4 : decode cX6_custom 4 = .ok (.aload_n 0, 1) := by decide +kernel
theorem dX6_custom_5 : decode cX6_custom 5 = .ok (.getfield 10, 3) := by decide +kernel
theorem dX6_custom_8 : decode cX6_custom 8 = .ok (.invokevirtual 106, 3) := by decide +kernel
theorem dX6_custom_11 : decode cX6_custom 11 = .ok (.aload_n 0, 1) := by decide +kernel
theorem dX6_custom_12 : decode cX6_custom 12 = .ok (.getfield 10, 3) := by decide +kernel
theorem dX6_custom_15 : decode cX6_custom 15 = .ok (.iconst 0, 1) := by decide +kernel
theorem dX6_custom_16 : decode cX6_custom 16 = .ok (.putfield 78, 3) := by decide +kernel
theorem dX6_custom_19 : decode cX6_custom 19 = .ok (.aload_n 0, 1) := by decide +kernel
theorem dX6_custom_20 : decode cX6_custom 20 = .ok (.getfield 10, 3) := by decide +kernel
theorem dX6_custom_23 : decode cX6_custom 23 = .ok (.getfield 90, 3) := by decide +kernel
theorem dX6_custom_26 : decode cX6_custom 26 = .ok (.ifCond .eq 14, 3) := by decide +kernel
theorem dX6_custom_29 : decode cX6_custom 29 = .ok (.bipush (-10), 2) := by decide +kernel
theorem dX6_custom_31 : decode cX6_custom 31 = .ok (.aload_n 0, 1) := by decide +kernel
theorem dX6_custom_32 : decode cX6_custom 32 = .ok (.getfield 10, 3) := by decide +kernel
theorem dX6_custom_35 : decode cX6_custom 35 = .ok (.getfield 90, 3) := by decide +kernel
theorem dX6_custom_38 : decode cX6_custom 38 = .ok (.isub, 1) := by decide +kernel
theorem dX6_custom_39 : decode cX6_custom 39 = .ok (.ireturn, 1) := by decide +kernel
theorem dX6_custom_40 : decode cX6_custom 40 = .ok (.aload_n 0, 1) := by decide +kernel
theorem dX6_custom_41 : decode cX6_custom 41 = .ok (.getfield 19, 3) := by decide +kernel
theorem dX6_custom_44 : decode cX6_custom 44 = .ok (.aload_n 0, 1) := by decide +kernel
theorem dX6_custom_45 : decode cX6_custom 45 = .ok (.getfield 23, 3) := by decide +kernel
theorem dX6_custom_48 : decode cX6_custom 48 = .ok (.invokevirtual 107, 3) := by decide +kernel
theorem dX6_custom_51 : decode cX6_custom 51 = .ok (.aload_n 0, 1) := by decide +kernel
theorem dX6_custom_52 : decode cX6_custom 52 = .ok (.getfield 19, 3) := by decide +kernel
theorem dX6_custom_55 : decode cX6_custom 55 = .ok (.getfield 110, 3) := by decide +kernel
theorem dX6_custom_58 : decode cX6_custom 58 = .ok (.ireturn, 1) := by decide +kernel
theorem dX6_fault_0 : decode cX6_fault 0 = .ok (.aload_n 0, 1) := by decide +kernel
theorem dX6_fault_1 : decode cX6_fault 1 = .ok (.getfield 10, 3) := by decide +kernel
theorem dX6_fault_4 : decode cX6_fault 4 = .ok (.getfield 111, 3) := by decide +kernel
theorem dX6_fault_7 : decode cX6_fault 7 = .ok (.ireturn, 1) := by decide +kernel
theorem dX6_told_0 : decode cX6_told 0 = .ok (.iload_n 1, 1) := by decide +kernel
theorem dX6_told_1 : decode cX6_told 1 = .ok (.tableswitch 135 0 9 #[55, 63, 71, 79, 87, 95, 103, 111, 119, 127], 55) := by decide +kernel
theorem dX6_told_56 : decode cX6_told 56 = .ok (.aload_n 0, 1) := by decide +kernel
theorem dX6_told_57 : decode cX6_told 57 = .ok (.getfield 29, 3) := by decide +kernel
theorem dX6_told_60 : decode cX6_told 60 = .ok (.getfield 114, 3) := by decide +kernel
theorem dX6_told_63 : decode cX6_told 63 = .ok (.ireturn, 1) := by decide +kernel
theorem dX6_told_64 : decode cX6_told 64 = .ok (.aload_n 0, 1) := by decide +kernel
theorem dX6_told_65 : decode cX6_told 65 = .ok (.getfield 29, 3) := by decide +kernel
theorem dX6_told_68 : decode cX6_told 68 = .ok (.getfield 103, 3) := by decide +kernel
theorem dX6_told_71 : decode cX6_told 71 = .ok (.ireturn, 1) := by decide +kernel
theorem dX6_told_72 : decode cX6_told 72 = .ok (.aload_n 0, 1) := by decide +kernel
theorem dX6_told_73 : decode cX6_told 73 = .ok (.getfield 10, 3) := by decide +kernel
theorem dX6_told_76 : decode cX6_told 76 = .ok (.getfield 78, 3) := by decide +kernel
theorem dX6_told_79 : decode cX6_told 79 = .ok (.ireturn, 1) := by decide +kernel
theorem dX6_told_80 : decode cX6_told 80 = .ok (.aload_n 0, 1) := by decide +kernel
theorem dX6_told_81 : decode cX6_told 81 = .ok (.getfield 29, 3) := by decide +kernel
theorem dX6_told_84 : decode cX6_told 84 = .ok (.getfield 117, 3) := by decide +kernel
theorem dX6_told_87 : decode cX6_told 87 = .ok (.ireturn, 1) := by decide +kernel
theorem dX6_told_88 : decode cX6_told 88 = .ok (.aload_n 0, 1) := by decide +kernel
theorem dX6_told_89 : decode cX6_told 89 = .ok (.getfield 29, 3) := by decide +kernel
theorem dX6_told_92 : decode cX6_told 92 = .ok (.getfield 120, 3) := by decide +kernel
theorem dX6_told_95 : decode cX6_told 95 = .ok (.ireturn, 1) := by decide +kernel
theorem dX6_told_96 : decode cX6_told 96 = .ok (.aload_n 0, 1) := by decide +kernel
theorem dX6_told_97 : decode cX6_told 97 = .ok (.getfield 29, 3) := by decide +kernel
theorem dX6_told_100 : decode cX6_told 100 = .ok (.invokevirtual 123, 3) := by decide +kernel
theorem dX6_told_103 : decode cX6_told 103 = .ok (.ireturn, 1) := by decide +kernel
theorem dX6_told_104 : decode cX6_told 104 = .ok (.aload_n 0, 1) := by decide +kernel
theorem dX6_told_105 : decode cX6_told 105 = .ok (.getfield 29, 3) := by decide +kernel
theorem dX6_told_108 : decode cX6_told 108 = .ok (.invokevirtual 127, 3) := by decide +kernel
theorem dX6_told_111 : decode cX6_told 111 = .ok (.ireturn, 1) := by decide +kernel
theorem dX6_told_112 : decode cX6_told 112 = .ok (.aload_n 0, 1) := by decide +kernel
theorem dX6_told_113 : decode cX6_told 113 = .ok (.getfield 29, 3) := by decide +kernel
theorem dX6_told_116 : decode cX6_told 116 = .ok (.getfield 130, 3) := by decide +kernel
theorem dX6_told_119 : decode cX6_told 119 = .ok (.ireturn, 1) := by decide +kernel
theorem dX6_told_120 : decode cX6_told 120 = .ok (.aload_n 0, 1) := by decide +kernel
theorem dX6_told_121 : decode cX6_told 121 = .ok (.getfield 52, 3) := by decide +kernel
theorem dX6_told_124 : decode cX6_told 124 = .ok (.getfield 100, 3) := by decide +kernel
theorem dX6_told_127 : decode cX6_told 127 = .ok (.ireturn, 1) := by decide +kernel
theorem dX6_told_128 : decode cX6_told 128 = .ok (.aload_n 0, 1) := by decide +kernel
theorem dX6_told_129 : decode cX6_told 129 = .ok (.getfield 19, 3) := by decide +kernel
theorem dX6_told_132 : decode cX6_told 132 = .ok (.getfield 110, 3) := by decide +kernel
theorem dX6_told_135 : decode cX6_told 135 = .ok (.ireturn, 1) := by decide +kernel
theorem dX6_told_136 : decode cX6_told 136 = .ok (.ldc 77, 2) := by decide +kernel
theorem dX6_told_138 : decode cX6_told 138 = .ok (.ireturn, 1) := by decide +kernel
theorem dX6_yard_0 : decode cX6_yard 0 = .ok (.aload_n 0, 1) := by decide +kernel
theorem dX6_yard_1 : decode cX6_yard 1 = .ok (.getfield 29, 3) := by decide +kernel
theorem dX6_yard_4 : decode cX6_yard 4 = .ok (.iload_n 1, 1) := by decide +kernel
theorem dX6_yard_5 : decode cX6_yard 5 = .ok (.invokevirtual 133, 3) := by decide +kernel
theorem dX6_yard_8 : decode cX6_yard 8 = .ok (.ifCond .ne 6, 3) := by decide +kernel
theorem dX6_yard_11 : decode cX6_yard 11 = .ok (.ldc 137, 2) := by decide +kernel
theorem dX6_yard_13 : decode cX6_yard 13 = .ok (.ireturn, 1) := by decide +kernel
theorem dX6_yard_14 : decode cX6_yard 14 = .ok (.iload_n 2, 1) := by decide +kernel
theorem dX6_yard_15 : decode cX6_yard 15 = .ok (.lookupswitch 46 #[(0, 25), (1, 37)], 25) := by decide +kernel
theorem dX6_yard_40 : decode cX6_yard 40 = .ok (.aload_n 0, 1) := by decide +kernel
theorem dX6_yard_41 : decode cX6_yard 41 = .ok (.getfield 29, 3) := by decide +kernel
theorem dX6_yard_44 : decode cX6_yard 44 = .ok (.getfield 138, 3) := by decide +kernel
theorem dX6_yard_47 : decode cX6_yard 47 = .ok (.iload_n 1, 1) := by decide +kernel
theorem dX6_yard_48 : decode cX6_yard 48 = .ok (.invokestatic 142, 3) := by decide +kernel
theorem dX6_yard_51 : decode cX6_yard 51 = .ok (.ireturn, 1) := by decide +kernel
theorem dX6_yard_52 : decode cX6_yard 52 = .ok (.aload_n 0, 1) := by decide +kernel
theorem dX6_yard_53 : decode cX6_yard 53 = .ok (.getfield 29, 3) := by decide +kernel
theorem dX6_yard_56 : decode cX6_yard 56 = .ok (.iload_n 1, 1) := by decide +kernel
theorem dX6_yard_57 : decode cX6_yard 57 = .ok (.invokevirtual 146, 3) := by decide +kernel
theorem dX6_yard_60 : decode cX6_yard 60 = .ok (.ireturn, 1) := by decide +kernel
theorem dX6_yard_61 : decode cX6_yard 61 = .ok (.ldc 77, 2) := by decide +kernel
theorem dX6_yard_63 : decode cX6_yard 63 = .ok (.ireturn, 1) := by decide +kernel
theorem dX6_dead_0 : decode cX6_dead 0 = .ok (.aload_n 0, 1) := by decide +kernel
theorem dX6_dead_1 : decode cX6_dead 1 = .ok (.getfield 29, 3) := by decide +kernel
theorem dX6_dead_4 : decode cX6_dead 4 = .ok (.iload_n 1, 1) := by decide +kernel
theorem dX6_dead_5 : decode cX6_dead 5 = .ok (.invokevirtual 150, 3) := by decide +kernel
theorem dX6_dead_8 : decode cX6_dead 8 = .ok (.ifCond .ne 6, 3) := by decide +kernel
theorem dX6_dead_11 : decode cX6_dead 11 = .ok (.ldc 137, 2) := by decide +kernel
theorem dX6_dead_13 : decode cX6_dead 13 = .ok (.ireturn, 1) := by decide +kernel
theorem dX6_dead_14 : decode cX6_dead 14 = .ok (.iload_n 2, 1) := by decide +kernel
theorem dX6_dead_15 : decode cX6_dead 15 = .ok (.tableswitch 165 0 8 #[49, 61, 73, 85, 97, 109, 121, 141, 153], 49) := by decide +kernel
theorem dX6_dead_64 : decode cX6_dead 64 = .ok (.aload_n 0, 1) := by decide +kernel
theorem dX6_dead_65 : decode cX6_dead 65 = .ok (.getfield 29, 3) := by decide +kernel
theorem dX6_dead_68 : decode cX6_dead 68 = .ok (.getfield 153, 3) := by decide +kernel
theorem dX6_dead_71 : decode cX6_dead 71 = .ok (.iload_n 1, 1) := by decide +kernel
theorem dX6_dead_72 : decode cX6_dead 72 = .ok (.invokestatic 142, 3) := by decide +kernel
theorem dX6_dead_75 : decode cX6_dead 75 = .ok (.ireturn, 1) := by decide +kernel
theorem dX6_dead_76 : decode cX6_dead 76 = .ok (.aload_n 0, 1) := by decide +kernel
theorem dX6_dead_77 : decode cX6_dead 77 = .ok (.getfield 29, 3) := by decide +kernel
theorem dX6_dead_80 : decode cX6_dead 80 = .ok (.getfield 156, 3) := by decide +kernel
theorem dX6_dead_83 : decode cX6_dead 83 = .ok (.iload_n 1, 1) := by decide +kernel
theorem dX6_dead_84 : decode cX6_dead 84 = .ok (.invokestatic 142, 3) := by decide +kernel
theorem dX6_dead_87 : decode cX6_dead 87 = .ok (.ireturn, 1) := by decide +kernel
theorem dX6_dead_88 : decode cX6_dead 88 = .ok (.aload_n 0, 1) := by decide +kernel
theorem dX6_dead_89 : decode cX6_dead 89 = .ok (.getfield 29, 3) := by decide +kernel
theorem dX6_dead_92 : decode cX6_dead 92 = .ok (.getfield 159, 3) := by decide +kernel
theorem dX6_dead_95 : decode cX6_dead 95 = .ok (.iload_n 1, 1) := by decide +kernel
theorem dX6_dead_96 : decode cX6_dead 96 = .ok (.invokestatic 142, 3) := by decide +kernel
theorem dX6_dead_99 : decode cX6_dead 99 = .ok (.ireturn, 1) := by decide +kernel
theorem dX6_dead_100 : decode cX6_dead 100 = .ok (.aload_n 0, 1) := by decide +kernel
theorem dX6_dead_101 : decode cX6_dead 101 = .ok (.getfield 29, 3) := by decide +kernel
theorem dX6_dead_104 : decode cX6_dead 104 = .ok (.getfield 162, 3) := by decide +kernel
theorem dX6_dead_107 : decode cX6_dead 107 = .ok (.iload_n 1, 1) := by decide +kernel
theorem dX6_dead_108 : decode cX6_dead 108 = .ok (.invokestatic 142, 3) := by decide +kernel
theorem dX6_dead_111 : decode cX6_dead 111 = .ok (.ireturn, 1) := by decide +kernel
theorem dX6_dead_112 : decode cX6_dead 112 = .ok (.aload_n 0, 1) := by decide +kernel
theorem dX6_dead_113 : decode cX6_dead 113 = .ok (.getfield 29, 3) := by decide +kernel
theorem dX6_dead_116 : decode cX6_dead 116 = .ok (.getfield 165, 3) := by decide +kernel
theorem dX6_dead_119 : decode cX6_dead 119 = .ok (.iload_n 1, 1) := by decide +kernel
theorem dX6_dead_120 : decode cX6_dead 120 = .ok (.invokestatic 142, 3) := by decide +kernel
theorem dX6_dead_123 : decode cX6_dead 123 = .ok (.ireturn, 1) := by decide +kernel
theorem dX6_dead_124 : decode cX6_dead 124 = .ok (.aload_n 0, 1) := by decide +kernel
theorem dX6_dead_125 : decode cX6_dead 125 = .ok (.getfield 29, 3) := by decide +kernel
theorem dX6_dead_128 : decode cX6_dead 128 = .ok (.getfield 168, 3) := by decide +kernel
theorem dX6_dead_131 : decode cX6_dead 131 = .ok (.iload_n 1, 1) := by decide +kernel
theorem dX6_dead_132 : decode cX6_dead 132 = .ok (.invokestatic 142, 3) := by decide +kernel
theorem dX6_dead_135 : decode cX6_dead 135 = .ok (.ireturn, 1) := by decide +kernel
theorem dX6_dead_136 : decode cX6_dead 136 = .ok (.aload_n 0, 1) := by decide +kernel
theorem dX6_dead_137 : decode cX6_dead 137 = .ok (.getfield 29, 3) := by decide +kernel
theorem dX6_dead_140 : decode cX6_dead 140 = .ok (.getfield 171, 3) := by decide +kernel
theorem dX6_dead_143 : decode cX6_dead 143 = .ok (.iload_n 1, 1) := by decide +kernel
theorem dX6_dead_144 : decode cX6_dead 144 = .ok (.invokestatic 174, 3) := by decide +kernel
theorem dX6_dead_147 : decode cX6_dead 147 = .ok (.ifCond .eq 7, 3) := by decide +kernel
theorem dX6_dead_150 : decode cX6_dead 150 = .ok (.iconst 1, 1) := by decide +kernel
theorem dX6_dead_151 : decode cX6_dead 151 = .ok (.goto 4, 3) := by decide +kernel
theorem dX6_dead_154 : decode cX6_dead 154 = .ok (.iconst 0, 1) := by decide +kernel
theorem dX6_dead_155 : decode cX6_dead 155 = .ok (.ireturn, 1) := by decide +kernel
theorem dX6_dead_156 : decode cX6_dead 156 = .ok (.aload_n 0, 1) := by decide +kernel
theorem dX6_dead_157 : decode cX6_dead 157 = .ok (.getfield 29, 3) := by decide +kernel
theorem dX6_dead_160 : decode cX6_dead 160 = .ok (.getfield 178, 3) := by decide +kernel
theorem dX6_dead_163 : decode cX6_dead 163 = .ok (.iload_n 1, 1) := by decide +kernel
theorem dX6_dead_164 : decode cX6_dead 164 = .ok (.invokestatic 142, 3) := by decide +kernel
theorem dX6_dead_167 : decode cX6_dead 167 = .ok (.ireturn, 1) := by decide +kernel
theorem dX6_dead_168 : decode cX6_dead 168 = .ok (.aload_n 0, 1) := by decide +kernel
theorem dX6_dead_169 : decode cX6_dead 169 = .ok (.getfield 29, 3) := by decide +kernel
theorem dX6_dead_172 : decode cX6_dead 172 = .ok (.getfield 181, 3) := by decide +kernel
theorem dX6_dead_175 : decode cX6_dead 175 = .ok (.iload_n 1, 1) := by decide +kernel
theorem dX6_dead_176 : decode cX6_dead 176 = .ok (.invokestatic 142, 3) := by decide +kernel
theorem dX6_dead_179 : decode cX6_dead 179 = .ok (.ireturn, 1) := by decide +kernel
theorem dX6_dead_180 : decode cX6_dead 180 = .ok (.ldc 77, 2) := by decide +kernel
theorem dX6_dead_182 : decode cX6_dead 182 = .ok (.ireturn, 1) := by decide +kernel
theorem dX6_order_0 : decode cX6_order 0 = .ok (.aload_n 0, 1) := by decide +kernel
theorem dX6_order_1 : decode cX6_order 1 = .ok (.getfield 29, 3) := by decide +kernel
theorem dX6_order_4 : decode cX6_order 4 = .ok (.invokevirtual 123, 3) := by decide +kernel
theorem dX6_order_7 : decode cX6_order 7 = .ok (.istore_n 2, 1) := by decide +kernel
theorem dX6_order_8 : decode cX6_order 8 = .ok (.iconst 0, 1) := by decide +kernel
theorem dX6_order_9 : decode cX6_order 9 = .ok (.istore_n 3, 1) := by decide +kernel
theorem dX6_order_10 : decode cX6_order 10 = .ok (.iload_n 3, 1) := by decide +kernel
theorem dX6_order_11 : decode cX6_order 11 = .ok (.bipush 7, 2) := by decide +kernel
theorem dX6_order_13 : decode cX6_order 13 = .ok (.if_icmp .ge 36, 3) := by decide +kernel
theorem dX6_order_16 : decode cX6_order 16 = .ok (.iload_n 2, 1) := by decide +kernel
theorem dX6_order_17 : decode cX6_order 17 = .ok (.iload_n 3, 1) := by decide +kernel
theorem dX6_order_18 : decode cX6_order 18 = .ok (.invokestatic 174, 3) := by decide +kernel
theorem dX6_order_21 : decode cX6_order 21 = .ok (.ifCond .eq 22, 3) := by decide +kernel
theorem dX6_order_24 : decode cX6_order 24 = .ok (.aload_n 0, 1) := by decide +kernel
theorem dX6_order_25 : decode cX6_order 25 = .ok (.getfield 29, 3) := by decide +kernel
theorem dX6_order_28 : decode cX6_order 28 = .ok (.aload_n 0, 1) := by decide +kernel
theorem dX6_order_29 : decode cX6_order 29 = .ok (.getfield 19, 3) := by decide +kernel
theorem dX6_order_32 : decode cX6_order 32 = .ok (.iload_n 2, 1) := by decide +kernel
theorem dX6_order_33 : decode cX6_order 33 = .ok (.iload_n 3, 1) := by decide +kernel
theorem dX6_order_34 : decode cX6_order 34 = .ok (.invokevirtual 184, 3) := by decide +kernel
theorem dX6_order_37 : decode cX6_order 37 = .ok (.iload_n 1, 1) := by decide +kernel
theorem dX6_order_38 : decode cX6_order 38 = .ok (.if_icmp .ne 5, 3) := by decide +kernel
theorem dX6_order_41 : decode cX6_order 41 = .ok (.iload_n 3, 1) := by decide +kernel
theorem dX6_order_42 : decode cX6_order 42 = .ok (.ireturn, 1) := by decide +kernel
theorem dX6_order_43 : decode cX6_order 43 = .ok (.iinc 3 1, 3) := by decide +kernel
theorem dX6_order_46 : decode cX6_order 46 = .ok (.goto (-36), 3) := by decide +kernel
theorem dX6_order_49 : decode cX6_order 49 = .ok (.iconst (-1), 1) := by decide +kernel
theorem dX6_order_50 : decode cX6_order 50 = .ok (.ireturn, 1) := by decide +kernel
theorem dX6_letter_0 : decode cX6_letter 0 = .ok (.aload_n 0, 1) := by decide +kernel
theorem dX6_letter_1 : decode cX6_letter 1 = .ok (.getfield 29, 3) := by decide +kernel
theorem dX6_letter_4 : decode cX6_letter 4 = .ok (.iload_n 1, 1) := by decide +kernel
theorem dX6_letter_5 : decode cX6_letter 5 = .ok (.invokevirtual 150, 3) := by decide +kernel
theorem dX6_letter_8 : decode cX6_letter 8 = .ok (.ifCond .ne 6, 3) := by decide +kernel
theorem dX6_letter_11 : decode cX6_letter 11 = .ok (.ldc 137, 2) := by decide +kernel
theorem dX6_letter_13 : decode cX6_letter 13 = .ok (.ireturn, 1) := by decide +kernel
theorem dX6_letter_14 : decode cX6_letter 14 = .ok (.iload_n 2, 1) := by decide +kernel
theorem dX6_letter_15 : decode cX6_letter 15 = .ok (.ifCond .lt 9, 3) := by decide +kernel
theorem dX6_letter_18 : decode cX6_letter 18 = .ok (.iload_n 2, 1) := by decide +kernel
theorem dX6_letter_19 : decode cX6_letter 19 = .ok (.bipush 99, 2) := by decide +kernel
theorem dX6_letter_21 : decode cX6_letter 21 = .ok (.if_icmp .le 6, 3) := by decide +kernel
theorem dX6_letter_24 : decode cX6_letter 24 = .ok (.ldc 77, 2) := by decide +kernel
theorem dX6_letter_26 : decode cX6_letter 26 = .ok (.ireturn, 1) := by decide +kernel
theorem dX6_letter_27 : decode cX6_letter 27 = .ok (.aload_n 0, 1) := by decide +kernel
theorem dX6_letter_28 : decode cX6_letter 28 = .ok (.getfield 29, 3) := by decide +kernel
theorem dX6_letter_31 : decode cX6_letter 31 = .ok (.getfield 153, 3) := by decide +kernel
theorem dX6_letter_34 : decode cX6_letter 34 = .ok (.iload_n 1, 1) := by decide +kernel
theorem dX6_letter_35 : decode cX6_letter 35 = .ok (.invokestatic 142, 3) := by decide +kernel
theorem dX6_letter_38 : decode cX6_letter 38 = .ok (.istore_n 3, 1) := by decide +kernel
theorem dX6_letter_39 : decode cX6_letter 39 = .ok (.aload_n 0, 1) := by decide +kernel
theorem dX6_letter_40 : decode cX6_letter 40 = .ok (.getfield 29, 3) := by decide +kernel
theorem dX6_letter_43 : decode cX6_letter 43 = .ok (.getfield 153, 3) := by decide +kernel
theorem dX6_letter_46 : decode cX6_letter 46 = .ok (.iload_n 1, 1) := by decide +kernel
theorem dX6_letter_47 : decode cX6_letter 47 = .ok (.iload_n 2, 1) := by decide +kernel
theorem dX6_letter_48 : decode cX6_letter 48 = .ok (.invokestatic 188, 3) := by decide +kernel
theorem dX6_letter_51 : decode cX6_letter 51 = .ok (.iload_n 3, 1) := by decide +kernel
theorem dX6_letter_52 : decode cX6_letter 52 = .ok (.ireturn, 1) := by decide +kernel
theorem dX6_gift_0 : decode cX6_gift 0 = .ok (.aload_n 0, 1) := by decide +kernel
theorem dX6_gift_1 : decode cX6_gift 1 = .ok (.getfield 29, 3) := by decide +kernel
theorem dX6_gift_4 : decode cX6_gift 4 = .ok (.iload_n 1, 1) := by decide +kernel
theorem dX6_gift_5 : decode cX6_gift 5 = .ok (.invokevirtual 150, 3) := by decide +kernel
theorem dX6_gift_8 : decode cX6_gift 8 = .ok (.ifCond .ne 6, 3) := by decide +kernel
theorem dX6_gift_11 : decode cX6_gift 11 = .ok (.ldc 137, 2) := by decide +kernel
theorem dX6_gift_13 : decode cX6_gift 13 = .ok (.ireturn, 1) := by decide +kernel
theorem dX6_gift_14 : decode cX6_gift 14 = .ok (.iload_n 2, 1) := by decide +kernel
theorem dX6_gift_15 : decode cX6_gift 15 = .ok (.iconst 1, 1) := by decide +kernel
theorem dX6_gift_16 : decode cX6_gift 16 = .ok (.if_icmp .lt 10, 3) := by decide +kernel
theorem dX6_gift_19 : decode cX6_gift 19 = .ok (.iload_n 2, 1) := by decide +kernel
theorem dX6_gift_20 : decode cX6_gift 20 = .ok (.sipush 999, 3) := by decide +kernel
theorem dX6_gift_23 : decode cX6_gift 23 = .ok (.if_icmp .le 6, 3) := by decide +kernel
theorem dX6_gift_26 : decode cX6_gift 26 = .ok (.ldc 77, 2) := by decide +kernel
theorem dX6_gift_28 : decode cX6_gift 28 = .ok (.ireturn, 1) := by decide +kernel
theorem dX6_gift_29 : decode cX6_gift 29 = .ok (.aload_n 0, 1) := by decide +kernel
theorem dX6_gift_30 : decode cX6_gift 30 = .ok (.getfield 29, 3) := by decide +kernel
theorem dX6_gift_33 : decode cX6_gift 33 = .ok (.invokevirtual 123, 3) := by decide +kernel
theorem dX6_gift_36 : decode cX6_gift 36 = .ok (.iload_n 1, 1) := by decide +kernel
theorem dX6_gift_37 : decode cX6_gift 37 = .ok (.invokestatic 174, 3) := by decide +kernel
theorem dX6_gift_40 : decode cX6_gift 40 = .ok (.ifCond .ne 6, 3) := by decide +kernel
theorem dX6_gift_43 : decode cX6_gift 43 = .ok (.ldc 192, 2) := by decide +kernel
theorem dX6_gift_45 : decode cX6_gift 45 = .ok (.ireturn, 1) := by decide +kernel
theorem dX6_gift_46 : decode cX6_gift 46 = .ok (.sipush 9999, 3) := by decide +kernel
theorem dX6_gift_49 : decode cX6_gift 49 = .ok (.aload_n 0, 1) := by decide +kernel
theorem dX6_gift_50 : decode cX6_gift 50 = .ok (.getfield 29, 3) := by decide +kernel
theorem dX6_gift_53 : decode cX6_gift 53 = .ok (.getfield 162, 3) := by decide +kernel
theorem dX6_gift_56 : decode cX6_gift 56 = .ok (.iload_n 1, 1) := by decide +kernel
theorem dX6_gift_57 : decode cX6_gift 57 = .ok (.invokestatic 142, 3) := by decide +kernel
theorem dX6_gift_60 : decode cX6_gift 60 = .ok (.iload_n 2, 1) := by decide +kernel
theorem dX6_gift_61 : decode cX6_gift 61 = .ok (.iadd, 1) := by decide +kernel
theorem dX6_gift_62 : decode cX6_gift 62 = .ok (.invokestatic 193, 3) := by decide +kernel
theorem dX6_gift_65 : decode cX6_gift 65 = .ok (.istore_n 3, 1) := by decide +kernel
theorem dX6_gift_66 : decode cX6_gift 66 = .ok (.aload_n 0, 1) := by decide +kernel
theorem dX6_gift_67 : decode cX6_gift 67 = .ok (.getfield 29, 3) := by decide +kernel
theorem dX6_gift_70 : decode cX6_gift 70 = .ok (.getfield 162, 3) := by decide +kernel
theorem dX6_gift_73 : decode cX6_gift 73 = .ok (.iload_n 1, 1) := by decide +kernel
theorem dX6_gift_74 : decode cX6_gift 74 = .ok (.iload_n 3, 1) := by decide +kernel
theorem dX6_gift_75 : decode cX6_gift 75 = .ok (.invokestatic 188, 3) := by decide +kernel
theorem dX6_gift_78 : decode cX6_gift 78 = .ok (.iload_n 3, 1) := by decide +kernel
theorem dX6_gift_79 : decode cX6_gift 79 = .ok (.ireturn, 1) := by decide +kernel
theorem dX6_knock_0 : decode cX6_knock 0 = .ok (.aload_n 0, 1) := by decide +kernel
theorem dX6_knock_1 : decode cX6_knock 1 = .ok (.getfield 29, 3) := by decide +kernel
theorem dX6_knock_4 : decode cX6_knock 4 = .ok (.iload_n 1, 1) := by decide +kernel
theorem dX6_knock_5 : decode cX6_knock 5 = .ok (.invokevirtual 150, 3) := by decide +kernel
theorem dX6_knock_8 : decode cX6_knock 8 = .ok (.ifCond .ne 6, 3) := by decide +kernel
theorem dX6_knock_11 : decode cX6_knock 11 = .ok (.ldc 137, 2) := by decide +kernel
theorem dX6_knock_13 : decode cX6_knock 13 = .ok (.ireturn, 1) := by decide +kernel
theorem dX6_knock_14 : decode cX6_knock 14 = .ok (.aload_n 0, 1) := by decide +kernel
theorem dX6_knock_15 : decode cX6_knock 15 = .ok (.getfield 29, 3) := by decide +kernel
theorem dX6_knock_18 : decode cX6_knock 18 = .ok (.invokevirtual 123, 3) := by decide +kernel
theorem dX6_knock_21 : decode cX6_knock 21 = .ok (.istore_n 2, 1) := by decide +kernel
theorem dX6_knock_22 : decode cX6_knock 22 = .ok (.iload_n 2, 1) := by decide +kernel
theorem dX6_knock_23 : decode cX6_knock 23 = .ok (.iload_n 1, 1) := by decide +kernel
theorem dX6_knock_24 : decode cX6_knock 24 = .ok (.invokestatic 174, 3) := by decide +kernel
theorem dX6_knock_27 : decode cX6_knock 27 = .ok (.ifCond .ne 6, 3) := by decide +kernel
theorem dX6_knock_30 : decode cX6_knock 30 = .ok (.ldc 192, 2) := by decide +kernel
theorem dX6_knock_32 : decode cX6_knock 32 = .ok (.ireturn, 1) := by decide +kernel
theorem dX6_knock_33 : decode cX6_knock 33 = .ok (.aload_n 0, 1) := by decide +kernel
theorem dX6_knock_34 : decode cX6_knock 34 = .ok (.getfield 29, 3) := by decide +kernel
theorem dX6_knock_37 : decode cX6_knock 37 = .ok (.aload_n 0, 1) := by decide +kernel
theorem dX6_knock_38 : decode cX6_knock 38 = .ok (.getfield 19, 3) := by decide +kernel
theorem dX6_knock_41 : decode cX6_knock 41 = .ok (.iload_n 2, 1) := by decide +kernel
theorem dX6_knock_42 : decode cX6_knock 42 = .ok (.iload_n 1, 1) := by decide +kernel
theorem dX6_knock_43 : decode cX6_knock 43 = .ok (.invokevirtual 184, 3) := by decide +kernel
theorem dX6_knock_46 : decode cX6_knock 46 = .ok (.istore_n 3, 1) := by decide +kernel
theorem dX6_knock_47 : decode cX6_knock 47 = .ok (.aload_n 0, 1) := by decide +kernel
theorem dX6_knock_48 : decode cX6_knock 48 = .ok (.getfield 29, 3) := by decide +kernel
theorem dX6_knock_51 : decode cX6_knock 51 = .ok (.dup, 1) := by decide +kernel
theorem dX6_knock_52 : decode cX6_knock 52 = .ok (.getfield 171, 3) := by decide +kernel
theorem dX6_knock_55 : decode cX6_knock 55 = .ok (.iload_n 1, 1) := by decide +kernel
theorem dX6_knock_56 : decode cX6_knock 56 = .ok (.invokestatic 199, 3) := by decide +kernel
theorem dX6_knock_59 : decode cX6_knock 59 = .ok (.ior, 1) := by decide +kernel
theorem dX6_knock_60 : decode cX6_knock 60 = .ok (.putfield 171, 3) := by decide +kernel
theorem dX6_knock_63 : decode cX6_knock 63 = .ok (.iload_n 3, 1) := by decide +kernel
theorem dX6_knock_64 : decode cX6_knock 64 = .ok (.ireturn, 1) := by decide +kernel
theorem dX6_day_0 : decode cX6_day 0 = .ok (.iload_n 1, 1) := by decide +kernel
theorem dX6_day_1 : decode cX6_day 1 = .ok (.bipush (-9), 2) := by decide +kernel
theorem dX6_day_3 : decode cX6_day 3 = .ok (.if_icmp .lt 9, 3) := by decide +kernel
theorem dX6_day_6 : decode cX6_day 6 = .ok (.iload_n 1, 1) := by decide +kernel
theorem dX6_day_7 : decode cX6_day 7 = .ok (.bipush 9, 2) := by decide +kernel
theorem dX6_day_9 : decode cX6_day 9 = .ok (.if_icmp .le 6, 3) := by decide +kernel
theorem dX6_day_12 : decode cX6_day 12 = .ok (.ldc 77, 2) := by decide +kernel
theorem dX6_day_14 : decode cX6_day 14 = .ok (.ireturn, 1) := by decide +kernel
theorem dX6_day_15 : decode cX6_day 15 = .ok (.aload_n 0, 1) := by decide +kernel
theorem dX6_day_16 : decode cX6_day 16 = .ok (.getfield 29, 3) := by decide +kernel
theorem dX6_day_19 : decode cX6_day 19 = .ok (.iload_n 1, 1) := by decide +kernel
theorem dX6_day_20 : decode cX6_day 20 = .ok (.invokevirtual 202, 3) := by decide +kernel
theorem dX6_day_23 : decode cX6_day 23 = .ok (.aload_n 0, 1) := by decide +kernel
theorem dX6_day_24 : decode cX6_day 24 = .ok (.getfield 29, 3) := by decide +kernel
theorem dX6_day_27 : decode cX6_day 27 = .ok (.invokevirtual 205, 3) := by decide +kernel
theorem dX6_day_30 : decode cX6_day 30 = .ok (.ireturn, 1) := by decide +kernel
theorem dX6_rats_0 : decode cX6_rats 0 = .ok (.iload_n 1, 1) := by decide +kernel
theorem dX6_rats_1 : decode cX6_rats 1 = .ok (.iconst 1, 1) := by decide +kernel
theorem dX6_rats_2 : decode cX6_rats 2 = .ok (.if_icmp .lt 19, 3) := by decide +kernel
theorem dX6_rats_5 : decode cX6_rats 5 = .ok (.iload_n 1, 1) := by decide +kernel
theorem dX6_rats_6 : decode cX6_rats 6 = .ok (.bipush 99, 2) := by decide +kernel
theorem dX6_rats_8 : decode cX6_rats 8 = .ok (.if_icmp .gt 13, 3) := by decide +kernel
theorem dX6_rats_11 : decode cX6_rats 11 = .ok (.iload_n 2, 1) := by decide +kernel
theorem dX6_rats_12 : decode cX6_rats 12 = .ok (.ifCond .lt 9, 3) := by decide +kernel
theorem dX6_rats_15 : decode cX6_rats 15 = .ok (.iload_n 2, 1) := by decide +kernel
theorem dX6_rats_16 : decode cX6_rats 16 = .ok (.bipush 10, 2) := by decide +kernel
theorem dX6_rats_18 : decode cX6_rats 18 = .ok (.if_icmp .le 6, 3) := by decide +kernel
theorem dX6_rats_21 : decode cX6_rats 21 = .ok (.ldc 77, 2) := by decide +kernel
theorem dX6_rats_23 : decode cX6_rats 23 = .ok (.ireturn, 1) := by decide +kernel
theorem dX6_rats_24 : decode cX6_rats 24 = .ok (.iconst 0, 1) := by decide +kernel
theorem dX6_rats_25 : decode cX6_rats 25 = .ok (.istore_n 3, 1) := by decide +kernel
theorem dX6_rats_26 : decode cX6_rats 26 = .ok (.iload_n 3, 1) := by decide +kernel
theorem dX6_rats_27 : decode cX6_rats 27 = .ok (.iload_n 1, 1) := by decide +kernel
theorem dX6_rats_28 : decode cX6_rats 28 = .ok (.if_icmp .ge 17, 3) := by decide +kernel
theorem dX6_rats_31 : decode cX6_rats 31 = .ok (.aload_n 0, 1) := by decide +kernel
theorem dX6_rats_32 : decode cX6_rats 32 = .ok (.getfield 29, 3) := by decide +kernel
theorem dX6_rats_35 : decode cX6_rats 35 = .ok (.iload_n 2, 1) := by decide +kernel
theorem dX6_rats_36 : decode cX6_rats 36 = .ok (.invokevirtual 208, 3) := by decide +kernel
theorem dX6_rats_39 : decode cX6_rats 39 = .ok (.iinc 3 1, 3) := by decide +kernel
theorem dX6_rats_42 : decode cX6_rats 42 = .ok (.goto (-16), 3) := by decide +kernel
theorem dX6_rats_45 : decode cX6_rats 45 = .ok (.aload_n 0, 1) := by decide +kernel
theorem dX6_rats_46 : decode cX6_rats 46 = .ok (.getfield 29, 3) := by decide +kernel
theorem dX6_rats_49 : decode cX6_rats 49 = .ok (.invokevirtual 211, 3) := by decide +kernel
theorem dX6_rats_52 : decode cX6_rats 52 = .ok (.ireturn, 1) := by decide +kernel
theorem dX6_lay_0 : decode cX6_lay 0 = .ok (.aload_n 0, 1) := by decide +kernel
theorem dX6_lay_1 : decode cX6_lay 1 = .ok (.getfield 29, 3) := by decide +kernel
theorem dX6_lay_4 : decode cX6_lay 4 = .ok (.iload_n 1, 1) := by decide +kernel
theorem dX6_lay_5 : decode cX6_lay 5 = .ok (.invokevirtual 150, 3) := by decide +kernel
theorem dX6_lay_8 : decode cX6_lay 8 = .ok (.ifCond .eq 14, 3) := by decide +kernel
theorem dX6_lay_11 : decode cX6_lay 11 = .ok (.aload_n 0, 1) := by decide +kernel
theorem dX6_lay_12 : decode cX6_lay 12 = .ok (.getfield 29, 3) := by decide +kernel
theorem dX6_lay_15 : decode cX6_lay 15 = .ok (.iload_n 2, 1) := by decide +kernel
theorem dX6_lay_16 : decode cX6_lay 16 = .ok (.invokevirtual 133, 3) := by decide +kernel
theorem dX6_lay_19 : decode cX6_lay 19 = .ok (.ifCond .ne 6, 3) := by decide +kernel
theorem dX6_lay_22 : decode cX6_lay 22 = .ok (.ldc 137, 2) := by decide +kernel
theorem dX6_lay_24 : decode cX6_lay 24 = .ok (.ireturn, 1) := by decide +kernel
theorem dX6_lay_25 : decode cX6_lay 25 = .ok (.aload_n 0, 1) := by decide +kernel
theorem dX6_lay_26 : decode cX6_lay 26 = .ok (.getfield 29, 3) := by decide +kernel
theorem dX6_lay_29 : decode cX6_lay 29 = .ok (.invokevirtual 123, 3) := by decide +kernel
theorem dX6_lay_32 : decode cX6_lay 32 = .ok (.iload_n 1, 1) := by decide +kernel
theorem dX6_lay_33 : decode cX6_lay 33 = .ok (.invokestatic 174, 3) := by decide +kernel
theorem dX6_lay_36 : decode cX6_lay 36 = .ok (.ifCond .eq 17, 3) := by decide +kernel
theorem dX6_lay_39 : decode cX6_lay 39 = .ok (.aload_n 0, 1) := by decide +kernel
theorem dX6_lay_40 : decode cX6_lay 40 = .ok (.getfield 29, 3) := by decide +kernel
theorem dX6_lay_43 : decode cX6_lay 43 = .ok (.invokevirtual 214, 3) := by decide +kernel
theorem dX6_lay_46 : decode cX6_lay 46 = .ok (.iload_n 2, 1) := by decide +kernel
theorem dX6_lay_47 : decode cX6_lay 47 = .ok (.invokestatic 174, 3) := by decide +kernel
theorem dX6_lay_50 : decode cX6_lay 50 = .ok (.ifCond .eq 6, 3) := by decide +kernel
theorem dX6_lay_53 : decode cX6_lay 53 = .ok (.ldc 192, 2) := by decide +kernel
theorem dX6_lay_55 : decode cX6_lay 55 = .ok (.ireturn, 1) := by decide +kernel
theorem dX6_lay_56 : decode cX6_lay 56 = .ok (.aload_n 0, 1) := by decide +kernel
theorem dX6_lay_57 : decode cX6_lay 57 = .ok (.getfield 29, 3) := by decide +kernel
theorem dX6_lay_60 : decode cX6_lay 60 = .ok (.iload_n 1, 1) := by decide +kernel
theorem dX6_lay_61 : decode cX6_lay 61 = .ok (.iload_n 2, 1) := by decide +kernel
theorem dX6_lay_62 : decode cX6_lay 62 = .ok (.invokevirtual 217, 3) := by decide +kernel
theorem dX6_lay_65 : decode cX6_lay 65 = .ok (.ireturn, 1) := by decide +kernel
theorem dX6_spring_0 : decode cX6_spring 0 = .ok (.iload_n 1, 1) := by decide +kernel
theorem dX6_spring_1 : decode cX6_spring 1 = .ok (.iconst 1, 1) := by decide +kernel
theorem dX6_spring_2 : decode cX6_spring 2 = .ok (.if_icmp .lt 19, 3) := by decide +kernel
theorem dX6_spring_5 : decode cX6_spring 5 = .ok (.iload_n 1, 1) := by decide +kernel
theorem dX6_spring_6 : decode cX6_spring 6 = .ok (.bipush 99, 2) := by decide +kernel
theorem dX6_spring_8 : decode cX6_spring 8 = .ok (.if_icmp .gt 13, 3) := by decide +kernel
theorem dX6_spring_11 : decode cX6_spring 11 = .ok (.iload_n 2, 1) := by decide +kernel
theorem dX6_spring_12 : decode cX6_spring 12 = .ok (.ifCond .lt 9, 3) := by decide +kernel
theorem dX6_spring_15 : decode cX6_spring 15 = .ok (.iload_n 2, 1) := by decide +kernel
theorem dX6_spring_16 : decode cX6_spring 16 = .ok (.bipush 9, 2) := by decide +kernel
theorem dX6_spring_18 : decode cX6_spring 18 = .ok (.if_icmp .le 6, 3) := by decide +kernel
theorem dX6_spring_21 : decode cX6_spring 21 = .ok (.ldc 77, 2) := by decide +kernel
theorem dX6_spring_23 : decode cX6_spring 23 = .ok (.ireturn, 1) := by decide +kernel
theorem dX6_spring_24 : decode cX6_spring 24 = .ok (.iconst 0, 1) := by decide +kernel
theorem dX6_spring_25 : decode cX6_spring 25 = .ok (.istore_n 3, 1) := by decide +kernel
theorem dX6_spring_26 : decode cX6_spring 26 = .ok (.iload_n 3, 1) := by decide +kernel
theorem dX6_spring_27 : decode cX6_spring 27 = .ok (.iload_n 1, 1) := by decide +kernel
theorem dX6_spring_28 : decode cX6_spring 28 = .ok (.if_icmp .ge 40, 3) := by decide +kernel
theorem dX6_spring_31 : decode cX6_spring 31 = .ok (.aload_n 0, 1) := by decide +kernel
theorem dX6_spring_32 : decode cX6_spring 32 = .ok (.getfield 29, 3) := by decide +kernel
theorem dX6_spring_35 : decode cX6_spring 35 = .ok (.aload_n 0, 1) := by decide +kernel
theorem dX6_spring_36 : decode cX6_spring 36 = .ok (.getfield 29, 3) := by decide +kernel
theorem dX6_spring_39 : decode cX6_spring 39 = .ok (.bipush 12, 2) := by decide +kernel
theorem dX6_spring_41 : decode cX6_spring 41 = .ok (.invokevirtual 220, 3) := by decide +kernel
theorem dX6_spring_44 : decode cX6_spring 44 = .ok (.iconst 3, 1) := by decide +kernel
theorem dX6_spring_45 : decode cX6_spring 45 = .ok (.isub, 1) := by decide +kernel
theorem dX6_spring_46 : decode cX6_spring 46 = .ok (.invokevirtual 202, 3) := by decide +kernel
theorem dX6_spring_49 : decode cX6_spring 49 = .ok (.aload_n 0, 1) := by decide +kernel
theorem dX6_spring_50 : decode cX6_spring 50 = .ok (.getfield 29, 3) := by decide +kernel
theorem dX6_spring_53 : decode cX6_spring 53 = .ok (.iconst 2, 1) := by decide +kernel
theorem dX6_spring_54 : decode cX6_spring 54 = .ok (.invokevirtual 208, 3) := by decide +kernel
theorem dX6_spring_57 : decode cX6_spring 57 = .ok (.aload_n 0, 1) := by decide +kernel
theorem dX6_spring_58 : decode cX6_spring 58 = .ok (.iload_n 2, 1) := by decide +kernel
theorem dX6_spring_59 : decode cX6_spring 59 = .ok (.invokevirtual 223, 3) := by decide +kernel
theorem dX6_spring_62 : decode cX6_spring 62 = .ok (.iinc 3 1, 3) := by decide +kernel
theorem dX6_spring_65 : decode cX6_spring 65 = .ok (.goto (-39), 3) := by decide +kernel
theorem dX6_spring_68 : decode cX6_spring 68 = .ok (.aload_n 0, 1) := by decide +kernel
theorem dX6_spring_69 : decode cX6_spring 69 = .ok (.getfield 29, 3) := by decide +kernel
theorem dX6_spring_72 : decode cX6_spring 72 = .ok (.invokevirtual 127, 3) := by decide +kernel
theorem dX6_spring_75 : decode cX6_spring 75 = .ok (.invokestatic 226, 3) := by decide +kernel
theorem dX6_spring_78 : decode cX6_spring 78 = .ok (.ireturn, 1) := by decide +kernel
theorem dX6_useSpades_0 : decode cX6_useSpades 0 = .ok (.iconst 0, 1) := by decide +kernel
theorem dX6_useSpades_1 : decode cX6_useSpades 1 = .ok (.istore_n 2, 1) := by decide +kernel
theorem dX6_useSpades_2 : decode cX6_useSpades 2 = .ok (.iload_n 2, 1) := by decide +kernel
theorem dX6_useSpades_3 : decode cX6_useSpades 3 = .ok (.iload_n 1, 1) := by decide +kernel
theorem dX6_useSpades_4 : decode cX6_useSpades 4 = .ok (.if_icmp .ge 62, 3) := by decide +kernel
theorem dX6_useSpades_7 : decode cX6_useSpades 7 = .ok (.aload_n 0, 1) := by decide +kernel
theorem dX6_useSpades_8 : decode cX6_useSpades 8 = .ok (.getfield 29, 3) := by decide +kernel
theorem dX6_useSpades_11 : decode cX6_useSpades 11 = .ok (.aload_n 0, 1) := by decide +kernel
theorem dX6_useSpades_12 : decode cX6_useSpades 12 = .ok (.getfield 19, 3) := by decide +kernel
theorem dX6_useSpades_15 : decode cX6_useSpades 15 = .ok (.aload_n 0, 1) := by decide +kernel
theorem dX6_useSpades_16 : decode cX6_useSpades 16 = .ok (.getfield 29, 3) := by decide +kernel
theorem dX6_useSpades_19 : decode cX6_useSpades 19 = .ok (.invokevirtual 123, 3) := by decide +kernel
theorem dX6_useSpades_22 : decode cX6_useSpades 22 = .ok (.invokevirtual 231, 3) := by decide +kernel
theorem dX6_useSpades_25 : decode cX6_useSpades 25 = .ok (.istore_n 3, 1) := by decide +kernel
theorem dX6_useSpades_26 : decode cX6_useSpades 26 = .ok (.aload_n 0, 1) := by decide +kernel
theorem dX6_useSpades_27 : decode cX6_useSpades 27 = .ok (.getfield 29, 3) := by decide +kernel
theorem dX6_useSpades_30 : decode cX6_useSpades 30 = .ok (.invokevirtual 235, 3) := by decide +kernel
theorem dX6_useSpades_33 : decode cX6_useSpades 33 = .ok (.istore 4, 2) := by decide +kernel
theorem dX6_useSpades_35 : decode cX6_useSpades 35 = .ok (.iload_n 3, 1) := by decide +kernel
theorem dX6_useSpades_36 : decode cX6_useSpades 36 = .ok (.iconst (-1), 1) := by decide +kernel
theorem dX6_useSpades_37 : decode cX6_useSpades 37 = .ok (.if_icmp .eq 8, 3) := by decide +kernel
theorem dX6_useSpades_40 : decode cX6_useSpades 40 = .ok (.iload 4, 2) := by decide +kernel
theorem dX6_useSpades_42 : decode cX6_useSpades 42 = .ok (.ifCond .ne 4, 3) := by decide +kernel
theorem dX6_useSpades_45 : decode cX6_useSpades 45 = .ok (.return_, 1) := by decide +kernel
theorem dX6_useSpades_46 : decode cX6_useSpades 46 = .ok (.aload_n 0, 1) := by decide +kernel
theorem dX6_useSpades_47 : decode cX6_useSpades 47 = .ok (.getfield 29, 3) := by decide +kernel
theorem dX6_useSpades_50 : decode cX6_useSpades 50 = .ok (.iload_n 3, 1) := by decide +kernel
theorem dX6_useSpades_51 : decode cX6_useSpades 51 = .ok (.iload 4, 2) := by decide +kernel
theorem dX6_useSpades_53 : decode cX6_useSpades 53 = .ok (.invokestatic 238, 3) := by decide +kernel
theorem dX6_useSpades_56 : decode cX6_useSpades 56 = .ok (.invokevirtual 217, 3) := by decide +kernel
theorem dX6_useSpades_59 : decode cX6_useSpades 59 = .ok (.pop, 1) := by decide +kernel
theorem dX6_useSpades_60 : decode cX6_useSpades 60 = .ok (.iinc 2 1, 3) := by decide +kernel
theorem dX6_useSpades_63 : decode cX6_useSpades 63 = .ok (.goto (-61), 3) := by decide +kernel
theorem dX6_useSpades_66 : decode cX6_useSpades 66 = .ok (.return_, 1) := by decide +kernel
theorem dX6_offended_0 : decode cX6_offended 0 = .ok (.aload_n 0, 1) := by decide +kernel
theorem dX6_offended_1 : decode cX6_offended 1 = .ok (.getfield 29, 3) := by decide +kernel
theorem dX6_offended_4 : decode cX6_offended 4 = .ok (.iload_n 1, 1) := by decide +kernel
theorem dX6_offended_5 : decode cX6_offended 5 = .ok (.invokevirtual 150, 3) := by decide +kernel
theorem dX6_offended_8 : decode cX6_offended 8 = .ok (.ifCond .ne 6, 3) := by decide +kernel
theorem dX6_offended_11 : decode cX6_offended 11 = .ok (.ldc 137, 2) := by decide +kernel
theorem dX6_offended_13 : decode cX6_offended 13 = .ok (.ireturn, 1) := by decide +kernel
theorem dX6_offended_14 : decode cX6_offended 14 = .ok (.aload_n 0, 1) := by decide +kernel
theorem dX6_offended_15 : decode cX6_offended 15 = .ok (.getfield 29, 3) := by decide +kernel
theorem dX6_offended_18 : decode cX6_offended 18 = .ok (.invokevirtual 127, 3) := by decide +kernel
theorem dX6_offended_21 : decode cX6_offended 21 = .ok (.iload_n 1, 1) := by decide +kernel
theorem dX6_offended_22 : decode cX6_offended 22 = .ok (.invokestatic 174, 3) := by decide +kernel
theorem dX6_offended_25 : decode cX6_offended 25 = .ok (.ifCond .ne 6, 3) := by decide +kernel
theorem dX6_offended_28 : decode cX6_offended 28 = .ok (.ldc 192, 2) := by decide +kernel
theorem dX6_offended_30 : decode cX6_offended 30 = .ok (.ireturn, 1) := by decide +kernel
theorem dX6_offended_31 : decode cX6_offended 31 = .ok (.aload_n 0, 1) := by decide +kernel
theorem dX6_offended_32 : decode cX6_offended 32 = .ok (.getfield 59, 3) := by decide +kernel
theorem dX6_offended_35 : decode cX6_offended 35 = .ok (.aload_n 0, 1) := by decide +kernel
theorem dX6_offended_36 : decode cX6_offended 36 = .ok (.getfield 29, 3) := by decide +kernel
theorem dX6_offended_39 : decode cX6_offended 39 = .ok (.aload_n 0, 1) := by decide +kernel
theorem dX6_offended_40 : decode cX6_offended 40 = .ok (.getfield 19, 3) := by decide +kernel
theorem dX6_offended_43 : decode cX6_offended 43 = .ok (.invokevirtual 241, 3) := by decide +kernel
theorem dX6_offended_46 : decode cX6_offended 46 = .ok (.aload_n 0, 1) := by decide +kernel
theorem dX6_offended_47 : decode cX6_offended 47 = .ok (.getfield 59, 3) := by decide +kernel
theorem dX6_offended_50 : decode cX6_offended 50 = .ok (.iload_n 1, 1) := by decide +kernel
theorem dX6_offended_51 : decode cX6_offended 51 = .ok (.invokevirtual 245, 3) := by decide +kernel
theorem dX6_offended_54 : decode cX6_offended 54 = .ok (.ireturn, 1) := by decide +kernel
theorem dX6_quarrels_0 : decode cX6_quarrels 0 = .ok (.aload_n 0, 1) := by decide +kernel
theorem dX6_quarrels_1 : decode cX6_quarrels 1 = .ok (.getfield 59, 3) := by decide +kernel
theorem dX6_quarrels_4 : decode cX6_quarrels 4 = .ok (.aload_n 0, 1) := by decide +kernel
theorem dX6_quarrels_5 : decode cX6_quarrels 5 = .ok (.getfield 29, 3) := by decide +kernel
theorem dX6_quarrels_8 : decode cX6_quarrels 8 = .ok (.aload_n 0, 1) := by decide +kernel
theorem dX6_quarrels_9 : decode cX6_quarrels 9 = .ok (.getfield 19, 3) := by decide +kernel
theorem dX6_quarrels_12 : decode cX6_quarrels 12 = .ok (.invokevirtual 241, 3) := by decide +kernel
theorem dX6_quarrels_15 : decode cX6_quarrels 15 = .ok (.aload_n 0, 1) := by decide +kernel
theorem dX6_quarrels_16 : decode cX6_quarrels 16 = .ok (.getfield 59, 3) := by decide +kernel
theorem dX6_quarrels_19 : decode cX6_quarrels 19 = .ok (.invokevirtual 248, 3) := by decide +kernel
theorem dX6_quarrels_22 : decode cX6_quarrels 22 = .ok (.ireturn, 1) := by decide +kernel
theorem dX6_laying_0 : decode cX6_laying 0 = .ok (.iload_n 1, 1) := by decide +kernel
theorem dX6_laying_1 : decode cX6_laying 1 = .ok (.iconst (-1), 1) := by decide +kernel
theorem dX6_laying_2 : decode cX6_laying 2 = .ok (.if_icmp .eq 17, 3) := by decide +kernel
theorem dX6_laying_5 : decode cX6_laying 5 = .ok (.aload_n 0, 1) := by decide +kernel
theorem dX6_laying_6 : decode cX6_laying 6 = .ok (.getfield 29, 3) := by decide +kernel
theorem dX6_laying_9 : decode cX6_laying 9 = .ok (.iload_n 1, 1) := by decide +kernel
theorem dX6_laying_10 : decode cX6_laying 10 = .ok (.invokevirtual 150, 3) := by decide +kernel
theorem dX6_laying_13 : decode cX6_laying 13 = .ok (.ifCond .ne 6, 3) := by decide +kernel
theorem dX6_laying_16 : decode cX6_laying 16 = .ok (.ldc 137, 2) := by decide +kernel
theorem dX6_laying_18 : decode cX6_laying 18 = .ok (.ireturn, 1) := by decide +kernel
theorem dX6_laying_19 : decode cX6_laying 19 = .ok (.aload_n 0, 1) := by decide +kernel
theorem dX6_laying_20 : decode cX6_laying 20 = .ok (.getfield 59, 3) := by decide +kernel
theorem dX6_laying_23 : decode cX6_laying 23 = .ok (.aload_n 0, 1) := by decide +kernel
theorem dX6_laying_24 : decode cX6_laying 24 = .ok (.getfield 29, 3) := by decide +kernel
theorem dX6_laying_27 : decode cX6_laying 27 = .ok (.aload_n 0, 1) := by decide +kernel
theorem dX6_laying_28 : decode cX6_laying 28 = .ok (.getfield 19, 3) := by decide +kernel
theorem dX6_laying_31 : decode cX6_laying 31 = .ok (.invokevirtual 241, 3) := by decide +kernel
theorem dX6_laying_34 : decode cX6_laying 34 = .ok (.aload_n 0, 1) := by decide +kernel
theorem dX6_laying_35 : decode cX6_laying 35 = .ok (.getfield 59, 3) := by decide +kernel
theorem dX6_laying_38 : decode cX6_laying 38 = .ok (.aload_n 0, 1) := by decide +kernel
theorem dX6_laying_39 : decode cX6_laying 39 = .ok (.getfield 29, 3) := by decide +kernel
theorem dX6_laying_42 : decode cX6_laying 42 = .ok (.invokevirtual 123, 3) := by decide +kernel
theorem dX6_laying_45 : decode cX6_laying 45 = .ok (.aload_n 0, 1) := by decide +kernel
theorem dX6_laying_46 : decode cX6_laying 46 = .ok (.getfield 29, 3) := by decide +kernel
theorem dX6_laying_49 : decode cX6_laying 49 = .ok (.invokevirtual 235, 3) := by decide +kernel
theorem dX6_laying_52 : decode cX6_laying 52 = .ok (.invokevirtual 251, 3) := by decide +kernel
theorem dX6_laying_55 : decode cX6_laying 55 = .ok (.aload_n 0, 1) := by decide +kernel
theorem dX6_laying_56 : decode cX6_laying 56 = .ok (.getfield 59, 3) := by decide +kernel
theorem dX6_laying_59 : decode cX6_laying 59 = .ok (.getfield 255, 3) := by decide +kernel
theorem dX6_laying_62 : decode cX6_laying 62 = .ok (.ifCond .ne 5, 3) := by decide +kernel
theorem dX6_laying_65 : decode cX6_laying 65 = .ok (.iconst (-1), 1) := by decide +kernel
theorem dX6_laying_66 : decode cX6_laying 66 = .ok (.ireturn, 1) := by decide +kernel
theorem dX6_laying_67 : decode cX6_laying 67 = .ok (.iload_n 1, 1) := by decide +kernel
theorem dX6_laying_68 : decode cX6_laying 68 = .ok (.iconst (-1), 1) := by decide +kernel
theorem dX6_laying_69 : decode cX6_laying 69 = .ok (.if_icmp .ne 11, 3) := by decide +kernel
theorem dX6_laying_72 : decode cX6_laying 72 = .ok (.aload_n 0, 1) := by decide +kernel
theorem dX6_laying_73 : decode cX6_laying 73 = .ok (.getfield 59, 3) := by decide +kernel
theorem dX6_laying_76 : decode cX6_laying 76 = .ok (.getfield 258, 3) := by decide +kernel
theorem dX6_laying_79 : decode cX6_laying 79 = .ok (.ireturn, 1) := by decide +kernel
theorem dX6_laying_80 : decode cX6_laying 80 = .ok (.aload_n 0, 1) := by decide +kernel
theorem dX6_laying_81 : decode cX6_laying 81 = .ok (.getfield 29, 3) := by decide +kernel
theorem dX6_laying_84 : decode cX6_laying 84 = .ok (.invokevirtual 123, 3) := by decide +kernel
theorem dX6_laying_87 : decode cX6_laying 87 = .ok (.iload_n 1, 1) := by decide +kernel
theorem dX6_laying_88 : decode cX6_laying 88 = .ok (.invokestatic 174, 3) := by decide +kernel
theorem dX6_laying_91 : decode cX6_laying 91 = .ok (.ifCond .eq 17, 3) := by decide +kernel
theorem dX6_laying_94 : decode cX6_laying 94 = .ok (.aload_n 0, 1) := by decide +kernel
theorem dX6_laying_95 : decode cX6_laying 95 = .ok (.getfield 59, 3) := by decide +kernel
theorem dX6_laying_98 : decode cX6_laying 98 = .ok (.getfield 261, 3) := by decide +kernel
theorem dX6_laying_101 : decode cX6_laying 101 = .ok (.iload_n 1, 1) := by decide +kernel
theorem dX6_laying_102 : decode cX6_laying 102 = .ok (.invokestatic 142, 3) := by decide +kernel
theorem dX6_laying_105 : decode cX6_laying 105 = .ok (.goto 4, 3) := by decide +kernel
theorem dX6_laying_108 : decode cX6_laying 108 = .ok (.iconst (-1), 1) := by decide +kernel
theorem dX6_laying_109 : decode cX6_laying 109 = .ok (.ireturn, 1) := by decide +kernel
theorem dX6_when_0 : decode cX6_when 0 = .ok (.iload_n 1, 1) := by decide +kernel
theorem dX6_when_1 : decode cX6_when 1 = .ok (.iconst 1, 1) := by decide +kernel
theorem dX6_when_2 : decode cX6_when 2 = .ok (.if_icmp .lt 20, 3) := by decide +kernel
theorem dX6_when_5 : decode cX6_when 5 = .ok (.iload_n 1, 1) := by decide +kernel
theorem dX6_when_6 : decode cX6_when 6 = .ok (.bipush 8, 2) := by decide +kernel
theorem dX6_when_8 : decode cX6_when 8 = .ok (.if_icmp .gt 14, 3) := by decide +kernel
theorem dX6_when_11 : decode cX6_when 11 = .ok (.iload_n 2, 1) := by decide +kernel
theorem dX6_when_12 : decode cX6_when 12 = .ok (.iconst 1, 1) := by decide +kernel
theorem dX6_when_13 : decode cX6_when 13 = .ok (.if_icmp .lt 9, 3) := by decide +kernel
theorem dX6_when_16 : decode cX6_when 16 = .ok (.iload_n 2, 1) := by decide +kernel
theorem dX6_when_17 : decode cX6_when 17 = .ok (.bipush 9, 2) := by decide +kernel
theorem dX6_when_19 : decode cX6_when 19 = .ok (.if_icmp .le 6, 3) := by decide +kernel
theorem dX6_when_22 : decode cX6_when 22 = .ok (.ldc 77, 2) := by decide +kernel
theorem dX6_when_24 : decode cX6_when 24 = .ok (.ireturn, 1) := by decide +kernel
theorem dX6_when_25 : decode cX6_when 25 = .ok (.aload_n 0, 1) := by decide +kernel
theorem dX6_when_26 : decode cX6_when 26 = .ok (.getfield 29, 3) := by decide +kernel
theorem dX6_when_29 : decode cX6_when 29 = .ok (.iload_n 1, 1) := by decide +kernel
theorem dX6_when_30 : decode cX6_when 30 = .ok (.iload_n 2, 1) := by decide +kernel
theorem dX6_when_31 : decode cX6_when 31 = .ok (.invokevirtual 264, 3) := by decide +kernel
theorem dX6_when_34 : decode cX6_when 34 = .ok (.ireturn, 1) := by decide +kernel
theorem dX6_span_0 : decode cX6_span 0 = .ok (.iload_n 1, 1) := by decide +kernel
theorem dX6_span_1 : decode cX6_span 1 = .ok (.iconst 1, 1) := by decide +kernel
theorem dX6_span_2 : decode cX6_span 2 = .ok (.if_icmp .lt 42, 3) := by decide +kernel
theorem dX6_span_5 : decode cX6_span 5 = .ok (.iload_n 1, 1) := by decide +kernel
theorem dX6_span_6 : decode cX6_span 6 = .ok (.bipush 8, 2) := by decide +kernel
theorem dX6_span_8 : decode cX6_span 8 = .ok (.if_icmp .gt 36, 3) := by decide +kernel
theorem dX6_span_11 : decode cX6_span 11 = .ok (.iload_n 2, 1) := by decide +kernel
theorem dX6_span_12 : decode cX6_span 12 = .ok (.iconst 1, 1) := by decide +kernel
theorem dX6_span_13 : decode cX6_span 13 = .ok (.if_icmp .lt 31, 3) := by decide +kernel
theorem dX6_span_16 : decode cX6_span 16 = .ok (.iload_n 2, 1) := by decide +kernel
theorem dX6_span_17 : decode cX6_span 17 = .ok (.bipush 9, 2) := by decide +kernel
theorem dX6_span_19 : decode cX6_span 19 = .ok (.if_icmp .gt 25, 3) := by decide +kernel
theorem dX6_span_22 : decode cX6_span 22 = .ok (.iload_n 3, 1) := by decide +kernel
theorem dX6_span_23 : decode cX6_span 23 = .ok (.iload_n 2, 1) := by decide +kernel
theorem dX6_span_24 : decode cX6_span 24 = .ok (.if_icmp .lt 20, 3) := by decide +kernel
theorem dX6_span_27 : decode cX6_span 27 = .ok (.iload_n 3, 1) := by decide +kernel
theorem dX6_span_28 : decode cX6_span 28 = .ok (.bipush 9, 2) := by decide +kernel
theorem dX6_span_30 : decode cX6_span 30 = .ok (.if_icmp .gt 14, 3) := by decide +kernel
theorem dX6_span_33 : decode cX6_span 33 = .ok (.iload 4, 2) := by decide +kernel
theorem dX6_span_35 : decode cX6_span 35 = .ok (.ifCond .lt 9, 3) := by decide +kernel
theorem dX6_span_38 : decode cX6_span 38 = .ok (.iload 4, 2) := by decide +kernel
theorem dX6_span_40 : decode cX6_span 40 = .ok (.iconst 1, 1) := by decide +kernel
theorem dX6_span_41 : decode cX6_span 41 = .ok (.if_icmp .le 6, 3) := by decide +kernel
theorem dX6_span_44 : decode cX6_span 44 = .ok (.ldc 77, 2) := by decide +kernel
theorem dX6_span_46 : decode cX6_span 46 = .ok (.ireturn, 1) := by decide +kernel
theorem dX6_span_47 : decode cX6_span 47 = .ok (.aload_n 0, 1) := by decide +kernel
theorem dX6_span_48 : decode cX6_span 48 = .ok (.getfield 29, 3) := by decide +kernel
theorem dX6_span_51 : decode cX6_span 51 = .ok (.iload_n 1, 1) := by decide +kernel
theorem dX6_span_52 : decode cX6_span 52 = .ok (.iload 4, 2) := by decide +kernel
theorem dX6_span_54 : decode cX6_span 54 = .ok (.ifCond .ne 7, 3) := by decide +kernel
theorem dX6_span_57 : decode cX6_span 57 = .ok (.iload_n 3, 1) := by decide +kernel
theorem dX6_span_58 : decode cX6_span 58 = .ok (.goto 4, 3) := by decide +kernel
theorem dX6_span_61 : decode cX6_span 61 = .ok (.iload_n 2, 1) := by decide +kernel
theorem dX6_span_62 : decode cX6_span 62 = .ok (.invokevirtual 264, 3) := by decide +kernel
theorem dX6_span_65 : decode cX6_span 65 = .ok (.ireturn, 1) := by decide +kernel
theorem dX6_bribe_0 : decode cX6_bribe 0 = .ok (.aload_n 0, 1) := by decide +kernel
theorem dX6_bribe_1 : decode cX6_bribe 1 = .ok (.getfield 29, 3) := by decide +kernel
theorem dX6_bribe_4 : decode cX6_bribe 4 = .ok (.iload_n 1, 1) := by decide +kernel
theorem dX6_bribe_5 : decode cX6_bribe 5 = .ok (.invokevirtual 150, 3) := by decide +kernel
theorem dX6_bribe_8 : decode cX6_bribe 8 = .ok (.ifCond .ne 6, 3) := by decide +kernel
theorem dX6_bribe_11 : decode cX6_bribe 11 = .ok (.ldc 137, 2) := by decide +kernel
theorem dX6_bribe_13 : decode cX6_bribe 13 = .ok (.ireturn, 1) := by decide +kernel
theorem dX6_bribe_14 : decode cX6_bribe 14 = .ok (.iload_n 2, 1) := by decide +kernel
theorem dX6_bribe_15 : decode cX6_bribe 15 = .ok (.ifCond .lt 9, 3) := by decide +kernel
theorem dX6_bribe_18 : decode cX6_bribe 18 = .ok (.iload_n 2, 1) := by decide +kernel
theorem dX6_bribe_19 : decode cX6_bribe 19 = .ok (.bipush 6, 2) := by decide +kernel
theorem dX6_bribe_21 : decode cX6_bribe 21 = .ok (.if_icmp .le 6, 3) := by decide +kernel
theorem dX6_bribe_24 : decode cX6_bribe 24 = .ok (.ldc 77, 2) := by decide +kernel
theorem dX6_bribe_26 : decode cX6_bribe 26 = .ok (.ireturn, 1) := by decide +kernel
theorem dX6_bribe_27 : decode cX6_bribe 27 = .ok (.aload_n 0, 1) := by decide +kernel
theorem dX6_bribe_28 : decode cX6_bribe 28 = .ok (.getfield 29, 3) := by decide +kernel
theorem dX6_bribe_31 : decode cX6_bribe 31 = .ok (.invokevirtual 123, 3) := by decide +kernel
theorem dX6_bribe_34 : decode cX6_bribe 34 = .ok (.iload_n 1, 1) := by decide +kernel
theorem dX6_bribe_35 : decode cX6_bribe 35 = .ok (.invokestatic 174, 3) := by decide +kernel
theorem dX6_bribe_38 : decode cX6_bribe 38 = .ok (.ifCond .ne 6, 3) := by decide +kernel
theorem dX6_bribe_41 : decode cX6_bribe 41 = .ok (.ldc 192, 2) := by decide +kernel
theorem dX6_bribe_43 : decode cX6_bribe 43 = .ok (.ireturn, 1) := by decide +kernel
theorem dX6_bribe_44 : decode cX6_bribe 44 = .ok (.aload_n 0, 1) := by decide +kernel
theorem dX6_bribe_45 : decode cX6_bribe 45 = .ok (.iload_n 1, 1) := by decide +kernel
theorem dX6_bribe_46 : decode cX6_bribe 46 = .ok (.iload_n 2, 1) := by decide +kernel
theorem dX6_bribe_47 : decode cX6_bribe 47 = .ok (.invokevirtual 267, 3) := by decide +kernel
theorem dX6_bribe_50 : decode cX6_bribe 50 = .ok (.ireturn, 1) := by decide +kernel
theorem dX6_leastBribe_0 : decode cX6_leastBribe 0 = .ok (.aload_n 0, 1) := by decide +kernel
theorem dX6_leastBribe_1 : decode cX6_leastBribe 1 = .ok (.getfield 29, 3) := by decide +kernel
theorem dX6_leastBribe_4 : decode cX6_leastBribe 4 = .ok (.invokevirtual 123, 3) := by decide +kernel
theorem dX6_leastBribe_7 : decode cX6_leastBribe 7 = .ok (.istore_n 3, 1) := by decide +kernel
theorem dX6_leastBribe_8 : decode cX6_leastBribe 8 = .ok (.aload_n 0, 1) := by decide +kernel
theorem dX6_leastBribe_9 : decode cX6_leastBribe 9 = .ok (.getfield 29, 3) := by decide +kernel
theorem dX6_leastBribe_12 : decode cX6_leastBribe 12 = .ok (.getfield 162, 3) := by decide +kernel
theorem dX6_leastBribe_15 : decode cX6_leastBribe 15 = .ok (.iload_n 1, 1) := by decide +kernel
theorem dX6_leastBribe_16 : decode cX6_leastBribe 16 = .ok (.invokestatic 142, 3) := by decide +kernel
theorem dX6_leastBribe_19 : decode cX6_leastBribe 19 = .ok (.istore 4, 2) := by decide +kernel
theorem dX6_leastBribe_21 : decode cX6_leastBribe 21 = .ok (.sipush 999, 3) := by decide +kernel
theorem dX6_leastBribe_24 : decode cX6_leastBribe 24 = .ok (.sipush 9999, 3) := by decide +kernel
theorem dX6_leastBribe_27 : decode cX6_leastBribe 27 = .ok (.iload 4, 2) := by decide +kernel
theorem dX6_leastBribe_29 : decode cX6_leastBribe 29 = .ok (.isub, 1) := by decide +kernel
theorem dX6_leastBribe_30 : decode cX6_leastBribe 30 = .ok (.invokestatic 193, 3) := by decide +kernel
theorem dX6_leastBribe_33 : decode cX6_leastBribe 33 = .ok (.istore 5, 2) := by decide +kernel
theorem dX6_leastBribe_35 : decode cX6_leastBribe 35 = .ok (.iconst (-1), 1) := by decide +kernel
theorem dX6_leastBribe_36 : decode cX6_leastBribe 36 = .ok (.istore 6, 2) := by decide +kernel
theorem dX6_leastBribe_38 : decode cX6_leastBribe 38 = .ok (.iconst 0, 1) := by decide +kernel
theorem dX6_leastBribe_39 : decode cX6_leastBribe 39 = .ok (.istore 7, 2) := by decide +kernel
theorem dX6_leastBribe_41 : decode cX6_leastBribe 41 = .ok (.iload 7, 2) := by decide +kernel
theorem dX6_leastBribe_43 : decode cX6_leastBribe 43 = .ok (.iload 5, 2) := by decide +kernel
theorem dX6_leastBribe_45 : decode cX6_leastBribe 45 = .ok (.if_icmp .gt 52, 3) := by decide +kernel
theorem dX6_leastBribe_48 : decode cX6_leastBribe 48 = .ok (.iload 6, 2) := by decide +kernel
theorem dX6_leastBribe_50 : decode cX6_leastBribe 50 = .ok (.iconst (-1), 1) := by decide +kernel
theorem dX6_leastBribe_51 : decode cX6_leastBribe 51 = .ok (.if_icmp .ne 46, 3) := by decide +kernel
theorem dX6_leastBribe_54 : decode cX6_leastBribe 54 = .ok (.aload_n 0, 1) := by decide +kernel
theorem dX6_leastBribe_55 : decode cX6_leastBribe 55 = .ok (.getfield 29, 3) := by decide +kernel
theorem dX6_leastBribe_58 : decode cX6_leastBribe 58 = .ok (.getfield 162, 3) := by decide +kernel
theorem dX6_leastBribe_61 : decode cX6_leastBribe 61 = .ok (.iload_n 1, 1) := by decide +kernel
theorem dX6_leastBribe_62 : decode cX6_leastBribe 62 = .ok (.iload 4, 2) := by decide +kernel
theorem dX6_leastBribe_64 : decode cX6_leastBribe 64 = .ok (.iload 7, 2) := by decide +kernel
theorem dX6_leastBribe_66 : decode cX6_leastBribe 66 = .ok (.iadd, 1) := by decide +kernel
theorem dX6_leastBribe_67 : decode cX6_leastBribe 67 = .ok (.invokestatic 188, 3) := by decide +kernel
theorem dX6_leastBribe_70 : decode cX6_leastBribe 70 = .ok (.aload_n 0, 1) := by decide +kernel
theorem dX6_leastBribe_71 : decode cX6_leastBribe 71 = .ok (.getfield 29, 3) := by decide +kernel
theorem dX6_leastBribe_74 : decode cX6_leastBribe 74 = .ok (.aload_n 0, 1) := by decide +kernel
theorem dX6_leastBribe_75 : decode cX6_leastBribe 75 = .ok (.getfield 19, 3) := by decide +kernel
theorem dX6_leastBribe_78 : decode cX6_leastBribe 78 = .ok (.iload_n 3, 1) := by decide +kernel
theorem dX6_leastBribe_79 : decode cX6_leastBribe 79 = .ok (.iload_n 1, 1) := by decide +kernel
theorem dX6_leastBribe_80 : decode cX6_leastBribe 80 = .ok (.invokevirtual 184, 3) := by decide +kernel
theorem dX6_leastBribe_83 : decode cX6_leastBribe 83 = .ok (.iload_n 2, 1) := by decide +kernel
theorem dX6_leastBribe_84 : decode cX6_leastBribe 84 = .ok (.if_icmp .gt 7, 3) := by decide +kernel
theorem dX6_leastBribe_87 : decode cX6_leastBribe 87 = .ok (.iload 7, 2) := by decide +kernel
theorem dX6_leastBribe_89 : decode cX6_leastBribe 89 = .ok (.istore 6, 2) := by decide +kernel
theorem dX6_leastBribe_91 : decode cX6_leastBribe 91 = .ok (.iinc 7 1, 3) := by decide +kernel
theorem dX6_leastBribe_94 : decode cX6_leastBribe 94 = .ok (.goto (-53), 3) := by decide +kernel
theorem dX6_leastBribe_97 : decode cX6_leastBribe 97 = .ok (.aload_n 0, 1) := by decide +kernel
theorem dX6_leastBribe_98 : decode cX6_leastBribe 98 = .ok (.getfield 29, 3) := by decide +kernel
theorem dX6_leastBribe_101 : decode cX6_leastBribe 101 = .ok (.getfield 162, 3) := by decide +kernel
theorem dX6_leastBribe_104 : decode cX6_leastBribe 104 = .ok (.iload_n 1, 1) := by decide +kernel
theorem dX6_leastBribe_105 : decode cX6_leastBribe 105 = .ok (.iload 4, 2) := by decide +kernel
theorem dX6_leastBribe_107 : decode cX6_leastBribe 107 = .ok (.invokestatic 188, 3) := by decide +kernel
theorem dX6_leastBribe_110 : decode cX6_leastBribe 110 = .ok (.iload 6, 2) := by decide +kernel
theorem dX6_leastBribe_112 : decode cX6_leastBribe 112 = .ok (.ireturn, 1) := by decide +kernel
theorem dX6_label_0 : decode cX6_label 0 = .ok (.aload_n 0, 1) := by decide +kernel
theorem dX6_label_1 : decode cX6_label 1 = .ok (.getfield 29, 3) := by decide +kernel
theorem dX6_label_4 : decode cX6_label 4 = .ok (.iload_n 1, 1) := by decide +kernel
theorem dX6_label_5 : decode cX6_label 5 = .ok (.invokevirtual 150, 3) := by decide +kernel
theorem dX6_label_8 : decode cX6_label 8 = .ok (.ifCond .eq 14, 3) := by decide +kernel
theorem dX6_label_11 : decode cX6_label 11 = .ok (.aload_n 0, 1) := by decide +kernel
theorem dX6_label_12 : decode cX6_label 12 = .ok (.getfield 29, 3) := by decide +kernel
theorem dX6_label_15 : decode cX6_label 15 = .ok (.iload_n 2, 1) := by decide +kernel
theorem dX6_label_16 : decode cX6_label 16 = .ok (.invokevirtual 150, 3) := by decide +kernel
theorem dX6_label_19 : decode cX6_label 19 = .ok (.ifCond .ne 6, 3) := by decide +kernel
theorem dX6_label_22 : decode cX6_label 22 = .ok (.ldc 137, 2) := by decide +kernel
theorem dX6_label_24 : decode cX6_label 24 = .ok (.ireturn, 1) := by decide +kernel
theorem dX6_label_25 : decode cX6_label 25 = .ok (.aload_n 0, 1) := by decide +kernel
theorem dX6_label_26 : decode cX6_label 26 = .ok (.getfield 29, 3) := by decide +kernel
theorem dX6_label_29 : decode cX6_label 29 = .ok (.getfield 178, 3) := by decide +kernel
theorem dX6_label_32 : decode cX6_label 32 = .ok (.iload_n 1, 1) := by decide +kernel
theorem dX6_label_33 : decode cX6_label 33 = .ok (.invokestatic 142, 3) := by decide +kernel
theorem dX6_label_36 : decode cX6_label 36 = .ok (.istore_n 3, 1) := by decide +kernel
theorem dX6_label_37 : decode cX6_label 37 = .ok (.aload_n 0, 1) := by decide +kernel
theorem dX6_label_38 : decode cX6_label 38 = .ok (.getfield 29, 3) := by decide +kernel
theorem dX6_label_41 : decode cX6_label 41 = .ok (.getfield 178, 3) := by decide +kernel
theorem dX6_label_44 : decode cX6_label 44 = .ok (.iload_n 1, 1) := by decide +kernel
theorem dX6_label_45 : decode cX6_label 45 = .ok (.iload_n 2, 1) := by decide +kernel
theorem dX6_label_46 : decode cX6_label 46 = .ok (.invokestatic 188, 3) := by decide +kernel
theorem dX6_label_49 : decode cX6_label 49 = .ok (.iload_n 3, 1) := by decide +kernel
theorem dX6_label_50 : decode cX6_label 50 = .ok (.ireturn, 1) := by decide +kernel
theorem dX6_mark_0 : decode cX6_mark 0 = .ok (.aload_n 0, 1) := by decide +kernel
theorem dX6_mark_1 : decode cX6_mark 1 = .ok (.getfield 29, 3) := by decide +kernel
theorem dX6_mark_4 : decode cX6_mark 4 = .ok (.iload_n 1, 1) := by decide +kernel
theorem dX6_mark_5 : decode cX6_mark 5 = .ok (.invokevirtual 150, 3) := by decide +kernel
theorem dX6_mark_8 : decode cX6_mark 8 = .ok (.ifCond .eq 20, 3) := by decide +kernel
theorem dX6_mark_11 : decode cX6_mark 11 = .ok (.iload_n 2, 1) := by decide +kernel
theorem dX6_mark_12 : decode cX6_mark 12 = .ok (.aload_n 0, 1) := by decide +kernel
theorem dX6_mark_13 : decode cX6_mark 13 = .ok (.getfield 29, 3) := by decide +kernel
theorem dX6_mark_16 : decode cX6_mark 16 = .ok (.getfield 103, 3) := by decide +kernel
theorem dX6_mark_19 : decode cX6_mark 19 = .ok (.invokestatic 270, 3) := by decide +kernel
theorem dX6_mark_22 : decode cX6_mark 22 = .ok (.iconst (-1), 1) := by decide +kernel
theorem dX6_mark_23 : decode cX6_mark 23 = .ok (.ixor, 1) := by decide +kernel
theorem dX6_mark_24 : decode cX6_mark 24 = .ok (.iand, 1) := by decide +kernel
theorem dX6_mark_25 : decode cX6_mark 25 = .ok (.ifCond .eq 6, 3) := by decide +kernel
theorem dX6_mark_28 : decode cX6_mark 28 = .ok (.ldc 137, 2) := by decide +kernel
theorem dX6_mark_30 : decode cX6_mark 30 = .ok (.ireturn, 1) := by decide +kernel
theorem dX6_mark_31 : decode cX6_mark 31 = .ok (.aload_n 0, 1) := by decide +kernel
end
section
theorem dX6_mark_32 : decode cX6_mark 32 = .ok (.getfield 29, 3) := by decide +kernel
theorem dX6_mark_35 : decode cX6_mark 35 = .ok (.getfield 181, 3) := by decide +kernel
theorem dX6_mark_38 : decode cX6_mark 38 = .ok (.iload_n 1, 1) := by decide +kernel
theorem dX6_mark_39 : decode cX6_mark 39 = .ok (.invokestatic 142, 3) := by decide +kernel
theorem dX6_mark_42 : decode cX6_mark 42 = .ok (.istore_n 3, 1) := by decide +kernel
theorem dX6_mark_43 : decode cX6_mark 43 = .ok (.aload_n 0, 1) := by decide +kernel
theorem dX6_mark_44 : decode cX6_mark 44 = .ok (.getfield 29, 3) := by decide +kernel
theorem dX6_mark_47 : decode cX6_mark 47 = .ok (.getfield 181, 3) := by decide +kernel
theorem dX6_mark_50 : decode cX6_mark 50 = .ok (.iload_n 1, 1) := by decide +kernel
theorem dX6_mark_51 : decode cX6_mark 51 = .ok (.iload_n 2, 1) := by decide +kernel
theorem dX6_mark_52 : decode cX6_mark 52 = .ok (.invokestatic 188, 3) := by decide +kernel
theorem dX6_mark_55 : decode cX6_mark 55 = .ok (.iload_n 3, 1) := by decide +kernel
theorem dX6_mark_56 : decode cX6_mark 56 = .ok (.ireturn, 1) := by decide +kernel
theorem dX6_fits_0 : decode cX6_fits 0 = .ok (.aload_n 0, 1) := by decide +kernel
theorem dX6_fits_1 : decode cX6_fits 1 = .ok (.getfield 66, 3) := by decide +kernel
theorem dX6_fits_4 : decode cX6_fits 4 = .ok (.aload_n 0, 1) := by decide +kernel
theorem dX6_fits_5 : decode cX6_fits 5 = .ok (.getfield 29, 3) := by decide +kernel
theorem dX6_fits_8 : decode cX6_fits 8 = .ok (.invokevirtual 273, 3) := by decide +kernel
theorem dX6_fits_11 : decode cX6_fits 11 = .ok (.ireturn, 1) := by decide +kernel
theorem dX6_mixed_0 : decode cX6_mixed 0 = .ok (.iload_n 1, 1) := by decide +kernel
theorem dX6_mixed_1 : decode cX6_mixed 1 = .ok (.iconst (-1), 1) := by decide +kernel
theorem dX6_mixed_2 : decode cX6_mixed 2 = .ok (.if_icmp .eq 17, 3) := by decide +kernel
theorem dX6_mixed_5 : decode cX6_mixed 5 = .ok (.aload_n 0, 1) := by decide +kernel
theorem dX6_mixed_6 : decode cX6_mixed 6 = .ok (.getfield 29, 3) := by decide +kernel
theorem dX6_mixed_9 : decode cX6_mixed 9 = .ok (.iload_n 1, 1) := by decide +kernel
theorem dX6_mixed_10 : decode cX6_mixed 10 = .ok (.invokevirtual 150, 3) := by decide +kernel
theorem dX6_mixed_13 : decode cX6_mixed 13 = .ok (.ifCond .ne 6, 3) := by decide +kernel
theorem dX6_mixed_16 : decode cX6_mixed 16 = .ok (.ldc 137, 2) := by decide +kernel
theorem dX6_mixed_18 : decode cX6_mixed 18 = .ok (.ireturn, 1) := by decide +kernel
theorem dX6_mixed_19 : decode cX6_mixed 19 = .ok (.aload_n 0, 1) := by decide +kernel
theorem dX6_mixed_20 : decode cX6_mixed 20 = .ok (.getfield 66, 3) := by decide +kernel
theorem dX6_mixed_23 : decode cX6_mixed 23 = .ok (.aload_n 0, 1) := by decide +kernel
theorem dX6_mixed_24 : decode cX6_mixed 24 = .ok (.getfield 29, 3) := by decide +kernel
theorem dX6_mixed_27 : decode cX6_mixed 27 = .ok (.invokevirtual 277, 3) := by decide +kernel
theorem dX6_mixed_30 : decode cX6_mixed 30 = .ok (.aload_n 0, 1) := by decide +kernel
theorem dX6_mixed_31 : decode cX6_mixed 31 = .ok (.getfield 66, 3) := by decide +kernel
theorem dX6_mixed_34 : decode cX6_mixed 34 = .ok (.invokevirtual 280, 3) := by decide +kernel
theorem dX6_mixed_37 : decode cX6_mixed 37 = .ok (.bipush 99, 2) := by decide +kernel
theorem dX6_mixed_39 : decode cX6_mixed 39 = .ok (.if_icmp .lt 5, 3) := by decide +kernel
theorem dX6_mixed_42 : decode cX6_mixed 42 = .ok (.iconst (-1), 1) := by decide +kernel
theorem dX6_mixed_43 : decode cX6_mixed 43 = .ok (.ireturn, 1) := by decide +kernel
theorem dX6_mixed_44 : decode cX6_mixed 44 = .ok (.iload_n 1, 1) := by decide +kernel
theorem dX6_mixed_45 : decode cX6_mixed 45 = .ok (.iconst (-1), 1) := by decide +kernel
theorem dX6_mixed_46 : decode cX6_mixed 46 = .ok (.if_icmp .ne 13, 3) := by decide +kernel
theorem dX6_mixed_49 : decode cX6_mixed 49 = .ok (.aload_n 0, 1) := by decide +kernel
theorem dX6_mixed_50 : decode cX6_mixed 50 = .ok (.getfield 66, 3) := by decide +kernel
theorem dX6_mixed_53 : decode cX6_mixed 53 = .ok (.invokevirtual 280, 3) := by decide +kernel
theorem dX6_mixed_56 : decode cX6_mixed 56 = .ok (.goto 15, 3) := by decide +kernel
theorem dX6_mixed_59 : decode cX6_mixed 59 = .ok (.aload_n 0, 1) := by decide +kernel
theorem dX6_mixed_60 : decode cX6_mixed 60 = .ok (.getfield 66, 3) := by decide +kernel
theorem dX6_mixed_63 : decode cX6_mixed 63 = .ok (.aload_n 0, 1) := by decide +kernel
theorem dX6_mixed_64 : decode cX6_mixed 64 = .ok (.getfield 29, 3) := by decide +kernel
theorem dX6_mixed_67 : decode cX6_mixed 67 = .ok (.iload_n 1, 1) := by decide +kernel
theorem dX6_mixed_68 : decode cX6_mixed 68 = .ok (.invokevirtual 283, 3) := by decide +kernel
theorem dX6_mixed_71 : decode cX6_mixed 71 = .ok (.ireturn, 1) := by decide +kernel
theorem dX6_churches_0 : decode cX6_churches 0 = .ok (.iload_n 1, 1) := by decide +kernel
theorem dX6_churches_1 : decode cX6_churches 1 = .ok (.ifCond .lt 8, 3) := by decide +kernel
theorem dX6_churches_4 : decode cX6_churches 4 = .ok (.iload_n 1, 1) := by decide +kernel
theorem dX6_churches_5 : decode cX6_churches 5 = .ok (.iconst 1, 1) := by decide +kernel
theorem dX6_churches_6 : decode cX6_churches 6 = .ok (.if_icmp .le 6, 3) := by decide +kernel
theorem dX6_churches_9 : decode cX6_churches 9 = .ok (.ldc 77, 2) := by decide +kernel
theorem dX6_churches_11 : decode cX6_churches 11 = .ok (.ireturn, 1) := by decide +kernel
theorem dX6_churches_12 : decode cX6_churches 12 = .ok (.aload_n 0, 1) := by decide +kernel
theorem dX6_churches_13 : decode cX6_churches 13 = .ok (.getfield 29, 3) := by decide +kernel
theorem dX6_churches_16 : decode cX6_churches 16 = .ok (.invokevirtual 123, 3) := by decide +kernel
theorem dX6_churches_19 : decode cX6_churches 19 = .ok (.istore_n 2, 1) := by decide +kernel
theorem dX6_churches_20 : decode cX6_churches 20 = .ok (.iconst 0, 1) := by decide +kernel
theorem dX6_churches_21 : decode cX6_churches 21 = .ok (.istore_n 3, 1) := by decide +kernel
theorem dX6_churches_22 : decode cX6_churches 22 = .ok (.aload_n 0, 1) := by decide +kernel
theorem dX6_churches_23 : decode cX6_churches 23 = .ok (.getfield 29, 3) := by decide +kernel
theorem dX6_churches_26 : decode cX6_churches 26 = .ok (.iload_n 2, 1) := by decide +kernel
theorem dX6_churches_27 : decode cX6_churches 27 = .ok (.invokevirtual 287, 3) := by decide +kernel
theorem dX6_churches_30 : decode cX6_churches 30 = .ok (.istore 4, 2) := by decide +kernel
theorem dX6_churches_32 : decode cX6_churches 32 = .ok (.iconst 1, 1) := by decide +kernel
theorem dX6_churches_33 : decode cX6_churches 33 = .ok (.istore 5, 2) := by decide +kernel
theorem dX6_churches_35 : decode cX6_churches 35 = .ok (.iload 5, 2) := by decide +kernel
theorem dX6_churches_37 : decode cX6_churches 37 = .ok (.bipush 7, 2) := by decide +kernel
theorem dX6_churches_39 : decode cX6_churches 39 = .ok (.invokestatic 199, 3) := by decide +kernel
theorem dX6_churches_42 : decode cX6_churches 42 = .ok (.if_icmp .ge 63, 3) := by decide +kernel
theorem dX6_churches_45 : decode cX6_churches 45 = .ok (.iload 5, 2) := by decide +kernel
theorem dX6_churches_47 : decode cX6_churches 47 = .ok (.iload_n 2, 1) := by decide +kernel
theorem dX6_churches_48 : decode cX6_churches 48 = .ok (.iconst (-1), 1) := by decide +kernel
theorem dX6_churches_49 : decode cX6_churches 49 = .ok (.ixor, 1) := by decide +kernel
theorem dX6_churches_50 : decode cX6_churches 50 = .ok (.iand, 1) := by decide +kernel
theorem dX6_churches_51 : decode cX6_churches 51 = .ok (.ifCond .eq 6, 3) := by decide +kernel
theorem dX6_churches_54 : decode cX6_churches 54 = .ok (.goto 45, 3) := by decide +kernel
theorem dX6_churches_57 : decode cX6_churches 57 = .ok (.aload_n 0, 1) := by decide +kernel
theorem dX6_churches_58 : decode cX6_churches 58 = .ok (.getfield 29, 3) := by decide +kernel
theorem dX6_churches_61 : decode cX6_churches 61 = .ok (.iload 5, 2) := by decide +kernel
theorem dX6_churches_63 : decode cX6_churches 63 = .ok (.invokevirtual 287, 3) := by decide +kernel
theorem dX6_churches_66 : decode cX6_churches 66 = .ok (.aload_n 0, 1) := by decide +kernel
theorem dX6_churches_67 : decode cX6_churches 67 = .ok (.getfield 29, 3) := by decide +kernel
theorem dX6_churches_70 : decode cX6_churches 70 = .ok (.iload_n 2, 1) := by decide +kernel
theorem dX6_churches_71 : decode cX6_churches 71 = .ok (.iload 5, 2) := by decide +kernel
theorem dX6_churches_73 : decode cX6_churches 73 = .ok (.iconst (-1), 1) := by decide +kernel
theorem dX6_churches_74 : decode cX6_churches 74 = .ok (.ixor, 1) := by decide +kernel
theorem dX6_churches_75 : decode cX6_churches 75 = .ok (.iand, 1) := by decide +kernel
theorem dX6_churches_76 : decode cX6_churches 76 = .ok (.invokevirtual 287, 3) := by decide +kernel
theorem dX6_churches_79 : decode cX6_churches 79 = .ok (.isub, 1) := by decide +kernel
theorem dX6_churches_80 : decode cX6_churches 80 = .ok (.invokestatic 290, 3) := by decide +kernel
theorem dX6_churches_83 : decode cX6_churches 83 = .ok (.istore 6, 2) := by decide +kernel
theorem dX6_churches_85 : decode cX6_churches 85 = .ok (.iload 6, 2) := by decide +kernel
theorem dX6_churches_87 : decode cX6_churches 87 = .ok (.iload 4, 2) := by decide +kernel
theorem dX6_churches_89 : decode cX6_churches 89 = .ok (.if_icmp .ge 10, 3) := by decide +kernel
theorem dX6_churches_92 : decode cX6_churches 92 = .ok (.iload 6, 2) := by decide +kernel
theorem dX6_churches_94 : decode cX6_churches 94 = .ok (.istore 4, 2) := by decide +kernel
theorem dX6_churches_96 : decode cX6_churches 96 = .ok (.iload 5, 2) := by decide +kernel
theorem dX6_churches_98 : decode cX6_churches 98 = .ok (.istore_n 3, 1) := by decide +kernel
theorem dX6_churches_99 : decode cX6_churches 99 = .ok (.iinc 5 1, 3) := by decide +kernel
theorem dX6_churches_102 : decode cX6_churches 102 = .ok (.goto (-67), 3) := by decide +kernel
theorem dX6_churches_105 : decode cX6_churches 105 = .ok (.iload_n 1, 1) := by decide +kernel
theorem dX6_churches_106 : decode cX6_churches 106 = .ok (.ifCond .ne 8, 3) := by decide +kernel
theorem dX6_churches_109 : decode cX6_churches 109 = .ok (.iload 4, 2) := by decide +kernel
theorem dX6_churches_111 : decode cX6_churches 111 = .ok (.goto 4, 3) := by decide +kernel
theorem dX6_churches_114 : decode cX6_churches 114 = .ok (.iload_n 3, 1) := by decide +kernel
theorem dX6_churches_115 : decode cX6_churches 115 = .ok (.ireturn, 1) := by decide +kernel
theorem dX6_write_0 : decode cX6_write 0 = .ok (.aload_n 0, 1) := by decide +kernel
theorem dX6_write_1 : decode cX6_write 1 = .ok (.getfield 29, 3) := by decide +kernel
theorem dX6_write_4 : decode cX6_write 4 = .ok (.iload_n 1, 1) := by decide +kernel
theorem dX6_write_5 : decode cX6_write 5 = .ok (.invokevirtual 150, 3) := by decide +kernel
theorem dX6_write_8 : decode cX6_write 8 = .ok (.ifCond .eq 14, 3) := by decide +kernel
theorem dX6_write_11 : decode cX6_write 11 = .ok (.aload_n 0, 1) := by decide +kernel
theorem dX6_write_12 : decode cX6_write 12 = .ok (.getfield 29, 3) := by decide +kernel
theorem dX6_write_15 : decode cX6_write 15 = .ok (.iload_n 2, 1) := by decide +kernel
theorem dX6_write_16 : decode cX6_write 16 = .ok (.invokevirtual 133, 3) := by decide +kernel
theorem dX6_write_19 : decode cX6_write 19 = .ok (.ifCond .ne 6, 3) := by decide +kernel
theorem dX6_write_22 : decode cX6_write 22 = .ok (.ldc 137, 2) := by decide +kernel
theorem dX6_write_24 : decode cX6_write 24 = .ok (.ireturn, 1) := by decide +kernel
theorem dX6_write_25 : decode cX6_write 25 = .ok (.aload_n 0, 1) := by decide +kernel
theorem dX6_write_26 : decode cX6_write 26 = .ok (.getfield 52, 3) := by decide +kernel
theorem dX6_write_29 : decode cX6_write 29 = .ok (.getfield 100, 3) := by decide +kernel
theorem dX6_write_32 : decode cX6_write 32 = .ok (.bipush 20, 2) := by decide +kernel
theorem dX6_write_34 : decode cX6_write 34 = .ok (.if_icmp .lt 6, 3) := by decide +kernel
theorem dX6_write_37 : decode cX6_write 37 = .ok (.ldc 82, 2) := by decide +kernel
theorem dX6_write_39 : decode cX6_write 39 = .ok (.ireturn, 1) := by decide +kernel
theorem dX6_write_40 : decode cX6_write 40 = .ok (.aload_n 0, 1) := by decide +kernel
theorem dX6_write_41 : decode cX6_write 41 = .ok (.getfield 52, 3) := by decide +kernel
theorem dX6_write_44 : decode cX6_write 44 = .ok (.iload_n 1, 1) := by decide +kernel
theorem dX6_write_45 : decode cX6_write 45 = .ok (.iload_n 2, 1) := by decide +kernel
theorem dX6_write_46 : decode cX6_write 46 = .ok (.invokevirtual 293, 3) := by decide +kernel
theorem dX6_write_49 : decode cX6_write 49 = .ok (.aload_n 0, 1) := by decide +kernel
theorem dX6_write_50 : decode cX6_write 50 = .ok (.getfield 52, 3) := by decide +kernel
theorem dX6_write_53 : decode cX6_write 53 = .ok (.getfield 100, 3) := by decide +kernel
theorem dX6_write_56 : decode cX6_write 56 = .ok (.ireturn, 1) := by decide +kernel
theorem dX6_tear_0 : decode cX6_tear 0 = .ok (.aload_n 0, 1) := by decide +kernel
theorem dX6_tear_1 : decode cX6_tear 1 = .ok (.getfield 52, 3) := by decide +kernel
theorem dX6_tear_4 : decode cX6_tear 4 = .ok (.getfield 100, 3) := by decide +kernel
theorem dX6_tear_7 : decode cX6_tear 7 = .ok (.istore_n 1, 1) := by decide +kernel
theorem dX6_tear_8 : decode cX6_tear 8 = .ok (.aload_n 0, 1) := by decide +kernel
theorem dX6_tear_9 : decode cX6_tear 9 = .ok (.getfield 52, 3) := by decide +kernel
theorem dX6_tear_12 : decode cX6_tear 12 = .ok (.iconst 0, 1) := by decide +kernel
theorem dX6_tear_13 : decode cX6_tear 13 = .ok (.putfield 100, 3) := by decide +kernel
theorem dX6_tear_16 : decode cX6_tear 16 = .ok (.iload_n 1, 1) := by decide +kernel
theorem dX6_tear_17 : decode cX6_tear 17 = .ok (.ireturn, 1) := by decide +kernel
theorem dX6_judge_0 : decode cX6_judge 0 = .ok (.aload_n 0, 1) := by decide +kernel
theorem dX6_judge_1 : decode cX6_judge 1 = .ok (.getfield 29, 3) := by decide +kernel
theorem dX6_judge_4 : decode cX6_judge 4 = .ok (.invokevirtual 123, 3) := by decide +kernel
theorem dX6_judge_7 : decode cX6_judge 7 = .ok (.istore_n 1, 1) := by decide +kernel
theorem dX6_judge_8 : decode cX6_judge 8 = .ok (.aload_n 0, 1) := by decide +kernel
theorem dX6_judge_9 : decode cX6_judge 9 = .ok (.getfield 29, 3) := by decide +kernel
theorem dX6_judge_12 : decode cX6_judge 12 = .ok (.invokevirtual 235, 3) := by decide +kernel
theorem dX6_judge_15 : decode cX6_judge 15 = .ok (.istore_n 2, 1) := by decide +kernel
theorem dX6_judge_16 : decode cX6_judge 16 = .ok (.iconst 0, 1) := by decide +kernel
theorem dX6_judge_17 : decode cX6_judge 17 = .ok (.istore_n 3, 1) := by decide +kernel
theorem dX6_judge_18 : decode cX6_judge 18 = .ok (.iload_n 3, 1) := by decide +kernel
theorem dX6_judge_19 : decode cX6_judge 19 = .ok (.aload_n 0, 1) := by decide +kernel
theorem dX6_judge_20 : decode cX6_judge 20 = .ok (.getfield 52, 3) := by decide +kernel
theorem dX6_judge_23 : decode cX6_judge 23 = .ok (.getfield 100, 3) := by decide +kernel
theorem dX6_judge_26 : decode cX6_judge 26 = .ok (.if_icmp .ge 92, 3) := by decide +kernel
theorem dX6_judge_29 : decode cX6_judge 29 = .ok (.aload_n 0, 1) := by decide +kernel
theorem dX6_judge_30 : decode cX6_judge 30 = .ok (.getfield 52, 3) := by decide +kernel
theorem dX6_judge_33 : decode cX6_judge 33 = .ok (.getfield 295, 3) := by decide +kernel
theorem dX6_judge_36 : decode cX6_judge 36 = .ok (.iload_n 3, 1) := by decide +kernel
theorem dX6_judge_37 : decode cX6_judge 37 = .ok (.invokestatic 142, 3) := by decide +kernel
theorem dX6_judge_40 : decode cX6_judge 40 = .ok (.istore 4, 2) := by decide +kernel
theorem dX6_judge_42 : decode cX6_judge 42 = .ok (.aload_n 0, 1) := by decide +kernel
theorem dX6_judge_43 : decode cX6_judge 43 = .ok (.getfield 52, 3) := by decide +kernel
theorem dX6_judge_46 : decode cX6_judge 46 = .ok (.getfield 298, 3) := by decide +kernel
theorem dX6_judge_49 : decode cX6_judge 49 = .ok (.iload_n 3, 1) := by decide +kernel
theorem dX6_judge_50 : decode cX6_judge 50 = .ok (.invokestatic 142, 3) := by decide +kernel
theorem dX6_judge_53 : decode cX6_judge 53 = .ok (.istore 5, 2) := by decide +kernel
theorem dX6_judge_55 : decode cX6_judge 55 = .ok (.iload_n 1, 1) := by decide +kernel
theorem dX6_judge_56 : decode cX6_judge 56 = .ok (.iload 4, 2) := by decide +kernel
theorem dX6_judge_58 : decode cX6_judge 58 = .ok (.invokestatic 174, 3) := by decide +kernel
theorem dX6_judge_61 : decode cX6_judge 61 = .ok (.ifCond .eq 29, 3) := by decide +kernel
theorem dX6_judge_64 : decode cX6_judge 64 = .ok (.iload_n 2, 1) := by decide +kernel
theorem dX6_judge_65 : decode cX6_judge 65 = .ok (.iload 5, 2) := by decide +kernel
theorem dX6_judge_67 : decode cX6_judge 67 = .ok (.invokestatic 174, 3) := by decide +kernel
theorem dX6_judge_70 : decode cX6_judge 70 = .ok (.ifCond .eq 20, 3) := by decide +kernel
theorem dX6_judge_73 : decode cX6_judge 73 = .ok (.iload 4, 2) := by decide +kernel
theorem dX6_judge_75 : decode cX6_judge 75 = .ok (.aload_n 0, 1) := by decide +kernel
theorem dX6_judge_76 : decode cX6_judge 76 = .ok (.getfield 29, 3) := by decide +kernel
theorem dX6_judge_79 : decode cX6_judge 79 = .ok (.aload_n 0, 1) := by decide +kernel
theorem dX6_judge_80 : decode cX6_judge 80 = .ok (.getfield 19, 3) := by decide +kernel
theorem dX6_judge_83 : decode cX6_judge 83 = .ok (.iload_n 1, 1) := by decide +kernel
theorem dX6_judge_84 : decode cX6_judge 84 = .ok (.invokevirtual 231, 3) := by decide +kernel
theorem dX6_judge_87 : decode cX6_judge 87 = .ok (.if_icmp .eq 5, 3) := by decide +kernel
theorem dX6_judge_90 : decode cX6_judge 90 = .ok (.iload_n 3, 1) := by decide +kernel
theorem dX6_judge_91 : decode cX6_judge 91 = .ok (.ireturn, 1) := by decide +kernel
theorem dX6_judge_92 : decode cX6_judge 92 = .ok (.iload_n 1, 1) := by decide +kernel
theorem dX6_judge_93 : decode cX6_judge 93 = .ok (.iload 4, 2) := by decide +kernel
theorem dX6_judge_95 : decode cX6_judge 95 = .ok (.invokestatic 199, 3) := by decide +kernel
theorem dX6_judge_98 : decode cX6_judge 98 = .ok (.iconst (-1), 1) := by decide +kernel
theorem dX6_judge_99 : decode cX6_judge 99 = .ok (.ixor, 1) := by decide +kernel
theorem dX6_judge_100 : decode cX6_judge 100 = .ok (.iand, 1) := by decide +kernel
theorem dX6_judge_101 : decode cX6_judge 101 = .ok (.istore_n 1, 1) := by decide +kernel
theorem dX6_judge_102 : decode cX6_judge 102 = .ok (.iload_n 2, 1) := by decide +kernel
theorem dX6_judge_103 : decode cX6_judge 103 = .ok (.iload 5, 2) := by decide +kernel
theorem dX6_judge_105 : decode cX6_judge 105 = .ok (.invokestatic 199, 3) := by decide +kernel
theorem dX6_judge_108 : decode cX6_judge 108 = .ok (.iconst (-1), 1) := by decide +kernel
theorem dX6_judge_109 : decode cX6_judge 109 = .ok (.ixor, 1) := by decide +kernel
theorem dX6_judge_110 : decode cX6_judge 110 = .ok (.iand, 1) := by decide +kernel
theorem dX6_judge_111 : decode cX6_judge 111 = .ok (.istore_n 2, 1) := by decide +kernel
theorem dX6_judge_112 : decode cX6_judge 112 = .ok (.iinc 3 1, 3) := by decide +kernel
theorem dX6_judge_115 : decode cX6_judge 115 = .ok (.goto (-97), 3) := by decide +kernel
theorem dX6_judge_118 : decode cX6_judge 118 = .ok (.iconst (-1), 1) := by decide +kernel
theorem dX6_judge_119 : decode cX6_judge 119 = .ok (.ireturn, 1) := by decide +kernel
theorem dX6_seed_0 : decode cX6_seed 0 = .ok (.iload_n 1, 1) := by decide +kernel
theorem dX6_seed_1 : decode cX6_seed 1 = .ok (.ifCond .ge 6, 3) := by decide +kernel
theorem dX6_seed_4 : decode cX6_seed 4 = .ok (.ldc 77, 2) := by decide +kernel
theorem dX6_seed_6 : decode cX6_seed 6 = .ok (.ireturn, 1) := by decide +kernel
theorem dX6_seed_7 : decode cX6_seed 7 = .ok (.aload_n 0, 1) := by decide +kernel
theorem dX6_seed_8 : decode cX6_seed 8 = .ok (.getfield 29, 3) := by decide +kernel
theorem dX6_seed_11 : decode cX6_seed 11 = .ok (.getfield 93, 3) := by decide +kernel
theorem dX6_seed_14 : decode cX6_seed 14 = .ok (.istore_n 2, 1) := by decide +kernel
theorem dX6_seed_15 : decode cX6_seed 15 = .ok (.aload_n 0, 1) := by decide +kernel
theorem dX6_seed_16 : decode cX6_seed 16 = .ok (.getfield 29, 3) := by decide +kernel
theorem dX6_seed_19 : decode cX6_seed 19 = .ok (.iload_n 1, 1) := by decide +kernel
theorem dX6_seed_20 : decode cX6_seed 20 = .ok (.putfield 93, 3) := by decide +kernel
theorem dX6_seed_23 : decode cX6_seed 23 = .ok (.iload_n 2, 1) := by decide +kernel
theorem dX6_seed_24 : decode cX6_seed 24 = .ok (.ireturn, 1) := by decide +kernel
theorem dX6_keep_0 : decode cX6_keep 0 = .ok (.iload_n 1, 1) := by decide +kernel
theorem dX6_keep_1 : decode cX6_keep 1 = .ok (.ifCond .lt 8, 3) := by decide +kernel
theorem dX6_keep_4 : decode cX6_keep 4 = .ok (.iload_n 1, 1) := by decide +kernel
theorem dX6_keep_5 : decode cX6_keep 5 = .ok (.iconst 1, 1) := by decide +kernel
theorem dX6_keep_6 : decode cX6_keep 6 = .ok (.if_icmp .le 6, 3) := by decide +kernel
theorem dX6_keep_9 : decode cX6_keep 9 = .ok (.ldc 137, 2) := by decide +kernel
theorem dX6_keep_11 : decode cX6_keep 11 = .ok (.ireturn, 1) := by decide +kernel
theorem dX6_keep_12 : decode cX6_keep 12 = .ok (.iload_n 1, 1) := by decide +kernel
theorem dX6_keep_13 : decode cX6_keep 13 = .ok (.ifCond .ne 22, 3) := by decide +kernel
theorem dX6_keep_16 : decode cX6_keep 16 = .ok (.aload_n 0, 1) := by decide +kernel
theorem dX6_keep_17 : decode cX6_keep 17 = .ok (.getfield 36, 3) := by decide +kernel
theorem dX6_keep_20 : decode cX6_keep 20 = .ok (.aload_n 0, 1) := by decide +kernel
theorem dX6_keep_21 : decode cX6_keep 21 = .ok (.getfield 29, 3) := by decide +kernel
theorem dX6_keep_24 : decode cX6_keep 24 = .ok (.invokevirtual 96, 3) := by decide +kernel
theorem dX6_keep_27 : decode cX6_keep 27 = .ok (.aload_n 0, 1) := by decide +kernel
theorem dX6_keep_28 : decode cX6_keep 28 = .ok (.iconst 1, 1) := by decide +kernel
theorem dX6_keep_29 : decode cX6_keep 29 = .ok (.putfield 42, 3) := by decide +kernel
theorem dX6_keep_32 : decode cX6_keep 32 = .ok (.goto 19, 3) := by decide +kernel
theorem dX6_keep_35 : decode cX6_keep 35 = .ok (.aload_n 0, 1) := by decide +kernel
theorem dX6_keep_36 : decode cX6_keep 36 = .ok (.getfield 39, 3) := by decide +kernel
theorem dX6_keep_39 : decode cX6_keep 39 = .ok (.aload_n 0, 1) := by decide +kernel
theorem dX6_keep_40 : decode cX6_keep 40 = .ok (.getfield 29, 3) := by decide +kernel
theorem dX6_keep_43 : decode cX6_keep 43 = .ok (.invokevirtual 96, 3) := by decide +kernel
theorem dX6_keep_46 : decode cX6_keep 46 = .ok (.aload_n 0, 1) := by decide +kernel
theorem dX6_keep_47 : decode cX6_keep 47 = .ok (.iconst 1, 1) := by decide +kernel
theorem dX6_keep_48 : decode cX6_keep 48 = .ok (.putfield 46, 3) := by decide +kernel
theorem dX6_keep_51 : decode cX6_keep 51 = .ok (.iconst 1, 1) := by decide +kernel
theorem dX6_keep_52 : decode cX6_keep 52 = .ok (.ireturn, 1) := by decide +kernel
theorem dX6_goBack_0 : decode cX6_goBack 0 = .ok (.iload_n 1, 1) := by decide +kernel
theorem dX6_goBack_1 : decode cX6_goBack 1 = .ok (.ifCond .lt 8, 3) := by decide +kernel
theorem dX6_goBack_4 : decode cX6_goBack 4 = .ok (.iload_n 1, 1) := by decide +kernel
theorem dX6_goBack_5 : decode cX6_goBack 5 = .ok (.iconst 1, 1) := by decide +kernel
theorem dX6_goBack_6 : decode cX6_goBack 6 = .ok (.if_icmp .le 6, 3) := by decide +kernel
theorem dX6_goBack_9 : decode cX6_goBack 9 = .ok (.ldc 137, 2) := by decide +kernel
theorem dX6_goBack_11 : decode cX6_goBack 11 = .ok (.ireturn, 1) := by decide +kernel
theorem dX6_goBack_12 : decode cX6_goBack 12 = .ok (.iload_n 1, 1) := by decide +kernel
theorem dX6_goBack_13 : decode cX6_goBack 13 = .ok (.ifCond .ne 13, 3) := by decide +kernel
theorem dX6_goBack_16 : decode cX6_goBack 16 = .ok (.aload_n 0, 1) := by decide +kernel
theorem dX6_goBack_17 : decode cX6_goBack 17 = .ok (.getfield 42, 3) := by decide +kernel
theorem dX6_goBack_20 : decode cX6_goBack 20 = .ok (.ifCond .ne 16, 3) := by decide +kernel
theorem dX6_goBack_23 : decode cX6_goBack 23 = .ok (.goto 10, 3) := by decide +kernel
theorem dX6_goBack_26 : decode cX6_goBack 26 = .ok (.aload_n 0, 1) := by decide +kernel
theorem dX6_goBack_27 : decode cX6_goBack 27 = .ok (.getfield 46, 3) := by decide +kernel
theorem dX6_goBack_30 : decode cX6_goBack 30 = .ok (.ifCond .ne 6, 3) := by decide +kernel
theorem dX6_goBack_33 : decode cX6_goBack 33 = .ok (.ldc 192, 2) := by decide +kernel
theorem dX6_goBack_35 : decode cX6_goBack 35 = .ok (.ireturn, 1) := by decide +kernel
theorem dX6_goBack_36 : decode cX6_goBack 36 = .ok (.aload_n 0, 1) := by decide +kernel
theorem dX6_goBack_37 : decode cX6_goBack 37 = .ok (.getfield 29, 3) := by decide +kernel
theorem dX6_goBack_40 : decode cX6_goBack 40 = .ok (.iload_n 1, 1) := by decide +kernel
theorem dX6_goBack_41 : decode cX6_goBack 41 = .ok (.ifCond .ne 10, 3) := by decide +kernel
theorem dX6_goBack_44 : decode cX6_goBack 44 = .ok (.aload_n 0, 1) := by decide +kernel
theorem dX6_goBack_45 : decode cX6_goBack 45 = .ok (.getfield 36, 3) := by decide +kernel
theorem dX6_goBack_48 : decode cX6_goBack 48 = .ok (.goto 7, 3) := by decide +kernel
theorem dX6_goBack_51 : decode cX6_goBack 51 = .ok (.aload_n 0, 1) := by decide +kernel
theorem dX6_goBack_52 : decode cX6_goBack 52 = .ok (.getfield 39, 3) := by decide +kernel
theorem dX6_goBack_55 : decode cX6_goBack 55 = .ok (.invokevirtual 96, 3) := by decide +kernel
theorem dX6_goBack_58 : decode cX6_goBack 58 = .ok (.iconst 1, 1) := by decide +kernel
theorem dX6_goBack_59 : decode cX6_goBack 59 = .ok (.ireturn, 1) := by decide +kernel
theorem dX6_at_0 : decode cX6_at 0 = .ok (.aload_n 0, 1) := by decide +kernel
theorem dX6_at_1 : decode cX6_at 1 = .ok (.ifnull 19, 3) := by decide +kernel
theorem dX6_at_4 : decode cX6_at 4 = .ok (.iload_n 1, 1) := by decide +kernel
theorem dX6_at_5 : decode cX6_at 5 = .ok (.ifCond .lt 15, 3) := by decide +kernel
theorem dX6_at_8 : decode cX6_at 8 = .ok (.iload_n 1, 1) := by decide +kernel
theorem dX6_at_9 : decode cX6_at 9 = .ok (.aload_n 0, 1) := by decide +kernel
theorem dX6_at_10 : decode cX6_at 10 = .ok (.arraylength, 1) := by decide +kernel
theorem dX6_at_11 : decode cX6_at 11 = .ok (.if_icmp .ge 9, 3) := by decide +kernel
theorem dX6_at_14 : decode cX6_at 14 = .ok (.aload_n 0, 1) := by decide +kernel
theorem dX6_at_15 : decode cX6_at 15 = .ok (.iload_n 1, 1) := by decide +kernel
theorem dX6_at_16 : decode cX6_at 16 = .ok (.iaload, 1) := by decide +kernel
theorem dX6_at_17 : decode cX6_at 17 = .ok (.goto 4, 3) := by decide +kernel
theorem dX6_at_20 : decode cX6_at 20 = .ok (.iconst 0, 1) := by decide +kernel
theorem dX6_at_21 : decode cX6_at 21 = .ok (.ireturn, 1) := by decide +kernel
theorem dX6_put_0 : decode cX6_put 0 = .ok (.aload_n 0, 1) := by decide +kernel
theorem dX6_put_1 : decode cX6_put 1 = .ok (.ifnull 17, 3) := by decide +kernel
theorem dX6_put_4 : decode cX6_put 4 = .ok (.iload_n 1, 1) := by decide +kernel
theorem dX6_put_5 : decode cX6_put 5 = .ok (.ifCond .lt 13, 3) := by decide +kernel
theorem dX6_put_8 : decode cX6_put 8 = .ok (.iload_n 1, 1) := by decide +kernel
theorem dX6_put_9 : decode cX6_put 9 = .ok (.aload_n 0, 1) := by decide +kernel
theorem dX6_put_10 : decode cX6_put 10 = .ok (.arraylength, 1) := by decide +kernel
theorem dX6_put_11 : decode cX6_put 11 = .ok (.if_icmp .ge 7, 3) := by decide +kernel
theorem dX6_put_14 : decode cX6_put 14 = .ok (.aload_n 0, 1) := by decide +kernel
theorem dX6_put_15 : decode cX6_put 15 = .ok (.iload_n 1, 1) := by decide +kernel
theorem dX6_put_16 : decode cX6_put 16 = .ok (.iload_n 2, 1) := by decide +kernel
theorem dX6_put_17 : decode cX6_put 17 = .ok (.iastore, 1) := by decide +kernel
theorem dX6_put_18 : decode cX6_put 18 = .ok (.return_, 1) := by decide +kernel
theorem dX6_copyRow_0 : decode cX6_copyRow 0 = .ok (.iconst 0, 1) := by decide +kernel
theorem dX6_copyRow_1 : decode cX6_copyRow 1 = .ok (.istore_n 2, 1) := by decide +kernel
theorem dX6_copyRow_2 : decode cX6_copyRow 2 = .ok (.iload_n 2, 1) := by decide +kernel
theorem dX6_copyRow_3 : decode cX6_copyRow 3 = .ok (.bipush 8, 2) := by decide +kernel
theorem dX6_copyRow_5 : decode cX6_copyRow 5 = .ok (.if_icmp .ge 19, 3) := by decide +kernel
theorem dX6_copyRow_8 : decode cX6_copyRow 8 = .ok (.aload_n 1, 1) := by decide +kernel
theorem dX6_copyRow_9 : decode cX6_copyRow 9 = .ok (.iload_n 2, 1) := by decide +kernel
theorem dX6_copyRow_10 : decode cX6_copyRow 10 = .ok (.aload_n 0, 1) := by decide +kernel
theorem dX6_copyRow_11 : decode cX6_copyRow 11 = .ok (.iload_n 2, 1) := by decide +kernel
theorem dX6_copyRow_12 : decode cX6_copyRow 12 = .ok (.invokestatic 142, 3) := by decide +kernel
theorem dX6_copyRow_15 : decode cX6_copyRow 15 = .ok (.invokestatic 188, 3) := by decide +kernel
theorem dX6_copyRow_18 : decode cX6_copyRow 18 = .ok (.iinc 2 1, 3) := by decide +kernel
theorem dX6_copyRow_21 : decode cX6_copyRow 21 = .ok (.goto (-19), 3) := by decide +kernel
theorem dX6_copyRow_24 : decode cX6_copyRow 24 = .ok (.return_, 1) := by decide +kernel
theorem dX6_bit_0 : decode cX6_bit 0 = .ok (.iload_n 0, 1) := by decide +kernel
theorem dX6_bit_1 : decode cX6_bit 1 = .ok (.ifCond .lt 15, 3) := by decide +kernel
theorem dX6_bit_4 : decode cX6_bit 4 = .ok (.iload_n 0, 1) := by decide +kernel
theorem dX6_bit_5 : decode cX6_bit 5 = .ok (.bipush 31, 2) := by decide +kernel
theorem dX6_bit_7 : decode cX6_bit 7 = .ok (.if_icmp .ge 9, 3) := by decide +kernel
theorem dX6_bit_10 : decode cX6_bit 10 = .ok (.iconst 1, 1) := by decide +kernel
theorem dX6_bit_11 : decode cX6_bit 11 = .ok (.iload_n 0, 1) := by decide +kernel
theorem dX6_bit_12 : decode cX6_bit 12 = .ok (.ishl, 1) := by decide +kernel
theorem dX6_bit_13 : decode cX6_bit 13 = .ok (.goto 4, 3) := by decide +kernel
theorem dX6_bit_16 : decode cX6_bit 16 = .ok (.iconst 0, 1) := by decide +kernel
theorem dX6_bit_17 : decode cX6_bit 17 = .ok (.ireturn, 1) := by decide +kernel
theorem dX6_has_0 : decode cX6_has 0 = .ok (.iload_n 1, 1) := by decide +kernel
theorem dX6_has_1 : decode cX6_has 1 = .ok (.ifCond .lt 22, 3) := by decide +kernel
theorem dX6_has_4 : decode cX6_has 4 = .ok (.iload_n 1, 1) := by decide +kernel
theorem dX6_has_5 : decode cX6_has 5 = .ok (.bipush 31, 2) := by decide +kernel
theorem dX6_has_7 : decode cX6_has 7 = .ok (.if_icmp .ge 16, 3) := by decide +kernel
theorem dX6_has_10 : decode cX6_has 10 = .ok (.iload_n 0, 1) := by decide +kernel
theorem dX6_has_11 : decode cX6_has 11 = .ok (.iload_n 1, 1) := by decide +kernel
theorem dX6_has_12 : decode cX6_has 12 = .ok (.ishr, 1) := by decide +kernel
theorem dX6_has_13 : decode cX6_has 13 = .ok (.iconst 1, 1) := by decide +kernel
theorem dX6_has_14 : decode cX6_has 14 = .ok (.iand, 1) := by decide +kernel
theorem dX6_has_15 : decode cX6_has 15 = .ok (.iconst 1, 1) := by decide +kernel
theorem dX6_has_16 : decode cX6_has 16 = .ok (.if_icmp .ne 7, 3) := by decide +kernel
theorem dX6_has_19 : decode cX6_has 19 = .ok (.iconst 1, 1) := by decide +kernel
theorem dX6_has_20 : decode cX6_has 20 = .ok (.goto 4, 3) := by decide +kernel
theorem dX6_has_23 : decode cX6_has 23 = .ok (.iconst 0, 1) := by decide +kernel
theorem dX6_has_24 : decode cX6_has 24 = .ok (.ireturn, 1) := by decide +kernel
theorem dX6_allBelow_0 : decode cX6_allBelow 0 = .ok (.iload_n 0, 1) := by decide +kernel
theorem dX6_allBelow_1 : decode cX6_allBelow 1 = .ok (.invokestatic 199, 3) := by decide +kernel
theorem dX6_allBelow_4 : decode cX6_allBelow 4 = .ok (.iconst 1, 1) := by decide +kernel
theorem dX6_allBelow_5 : decode cX6_allBelow 5 = .ok (.isub, 1) := by decide +kernel
theorem dX6_allBelow_6 : decode cX6_allBelow 6 = .ok (.ireturn, 1) := by decide +kernel
theorem dX7_init_0 : decode cX7_init 0 = .ok (.aload_n 0, 1) := by decide +kernel
theorem dX7_init_1 : decode cX7_init 1 = .ok (.invokespecial 1, 3) := by decide +kernel
theorem dX7_init_4 : decode cX7_init 4 = .ok (.aload_n 0, 1) := by decide +kernel
theorem dX7_init_5 : decode cX7_init 5 = .ok (.sipush 400, 3) := by decide +kernel
theorem dX7_init_8 : decode cX7_init 8 = .ok (.newarray .int, 2) := by decide +kernel
theorem dX7_init_10 : decode cX7_init 10 = .ok (.putfield 7, 3) := by decide +kernel
theorem dX7_init_13 : decode cX7_init 13 = .ok (.aload_n 0, 1) := by decide +kernel
theorem dX7_init_14 : decode cX7_init 14 = .ok (.iconst 2, 1) := by decide +kernel
theorem dX7_init_15 : decode cX7_init 15 = .ok (.newarray .boolean, 2) := by decide +kernel
theorem dX7_init_17 : decode cX7_init 17 = .ok (.putfield 13, 3) := by decide +kernel
theorem dX7_init_20 : decode cX7_init 20 = .ok (.aload_n 0, 1) := by decide +kernel
theorem dX7_init_21 : decode cX7_init 21 = .ok (.bipush 6, 2) := by decide +kernel
theorem dX7_init_23 : decode cX7_init 23 = .ok (.putfield 17, 3) := by decide +kernel
theorem dX7_init_26 : decode cX7_init 26 = .ok (.aload_n 0, 1) := by decide +kernel
theorem dX7_init_27 : decode cX7_init 27 = .ok (.iconst 2, 1) := by decide +kernel
theorem dX7_init_28 : decode cX7_init 28 = .ok (.putfield 21, 3) := by decide +kernel
theorem dX7_init_31 : decode cX7_init 31 = .ok (.aload_n 0, 1) := by decide +kernel
theorem dX7_init_32 : decode cX7_init 32 = .ok (.bipush 16, 2) := by decide +kernel
theorem dX7_init_34 : decode cX7_init 34 = .ok (.newarray .int, 2) := by decide +kernel
theorem dX7_init_36 : decode cX7_init 36 = .ok (.putfield 24, 3) := by decide +kernel
theorem dX7_init_39 : decode cX7_init 39 = .ok (.aload_n 0, 1) := by decide +kernel
theorem dX7_init_40 : decode cX7_init 40 = .ok (.bipush 16, 2) := by decide +kernel
theorem dX7_init_42 : decode cX7_init 42 = .ok (.newarray .int, 2) := by decide +kernel
theorem dX7_init_44 : decode cX7_init 44 = .ok (.putfield 27, 3) := by decide +kernel
theorem dX7_init_47 : decode cX7_init 47 = .ok (.aload_n 0, 1) := by decide +kernel
theorem dX7_init_48 : decode cX7_init 48 = .ok (.bipush 16, 2) := by decide +kernel
theorem dX7_init_50 : decode cX7_init 50 = .ok (.newarray .int, 2) := by decide +kernel
theorem dX7_init_52 : decode cX7_init 52 = .ok (.putfield 30, 3) := by decide +kernel
theorem dX7_init_55 : decode cX7_init 55 = .ok (.aload_n 0, 1) := by decide +kernel
theorem dX7_init_56 : decode cX7_init 56 = .ok (.bipush 16, 2) := by decide +kernel
theorem dX7_init_58 : decode cX7_init 58 = .ok (.newarray .int, 2) := by decide +kernel
theorem dX7_init_60 : decode cX7_init 60 = .ok (.putfield 33, 3) := by decide +kernel
theorem dX7_init_63 : decode cX7_init 63 = .ok (.aload_n 0, 1) := by decide +kernel
theorem dX7_init_64 : decode cX7_init 64 = .ok (.iconst 4, 1) := by decide +kernel
theorem dX7_init_65 : decode cX7_init 65 = .ok (.newarray .int, 2) := by decide +kernel
theorem dX7_init_67 : decode cX7_init 67 = .ok (.putfield 36, 3) := by decide +kernel
theorem dX7_init_70 : decode cX7_init 70 = .ok (.aload_n 0, 1) := by decide +kernel
theorem dX7_init_71 : decode cX7_init 71 = .ok (.bipush 8, 2) := by decide +kernel
theorem dX7_init_73 : decode cX7_init 73 = .ok (.newarray .int, 2) := by decide +kernel
theorem dX7_init_75 : decode cX7_init 75 = .ok (.putfield 39, 3) := by decide +kernel
theorem dX7_init_78 : decode cX7_init 78 = .ok (.aload_n 0, 1) := by decide +kernel
theorem dX7_init_79 : decode cX7_init 79 = .ok (.sipush 400, 3) := by decide +kernel
theorem dX7_init_82 : decode cX7_init 82 = .ok (.newarray .int, 2) := by decide +kernel
theorem dX7_init_84 : decode cX7_init 84 = .ok (.putfield 42, 3) := by decide +kernel
theorem dX7_init_87 : decode cX7_init 87 = .ok (.aload_n 0, 1) := by decide +kernel
theorem dX7_init_88 : decode cX7_init 88 = .ok (.iconst (-1), 1) := by decide +kernel
theorem dX7_init_89 : decode cX7_init 89 = .ok (.putfield 45, 3) := by decide +kernel
theorem dX7_init_92 : decode cX7_init 92 = .ok (.aload_n 0, 1) := by decide +kernel
theorem dX7_init_93 : decode cX7_init 93 = .ok (.bipush 8, 2) := by decide +kernel
theorem dX7_init_95 : decode cX7_init 95 = .ok (.newarray .int, 2) := by decide +kernel
theorem dX7_init_97 : decode cX7_init 97 = .ok (.putfield 48, 3) := by decide +kernel
theorem dX7_init_100 : decode cX7_init 100 = .ok (.aload_n 0, 1) := by decide +kernel
theorem dX7_init_101 : decode cX7_init 101 = .ok (.bipush 8, 2) := by decide +kernel
theorem dX7_init_103 : decode cX7_init 103 = .ok (.newarray .int, 2) := by decide +kernel
theorem dX7_init_105 : decode cX7_init 105 = .ok (.putfield 51, 3) := by decide +kernel
theorem dX7_init_108 : decode cX7_init 108 = .ok (.aload_n 0, 1) := by decide +kernel
theorem dX7_init_109 : decode cX7_init 109 = .ok (.bipush 8, 2) := by decide +kernel
theorem dX7_init_111 : decode cX7_init 111 = .ok (.newarray .int, 2) := by decide +kernel
theorem dX7_init_113 : decode cX7_init 113 = .ok (.putfield 54, 3) := by decide +kernel
theorem dX7_init_116 : decode cX7_init 116 = .ok (.aload_n 0, 1) := by decide +kernel
theorem dX7_init_117 : decode cX7_init 117 = .ok (.bipush 8, 2) := by decide +kernel
theorem dX7_init_119 : decode cX7_init 119 = .ok (.newarray .int, 2) := by decide +kernel
theorem dX7_init_121 : decode cX7_init 121 = .ok (.putfield 57, 3) := by decide +kernel
theorem dX7_init_124 : decode cX7_init 124 = .ok (.aload_n 0, 1) := by decide +kernel
theorem dX7_init_125 : decode cX7_init 125 = .ok (.sipush 1024, 3) := by decide +kernel
theorem dX7_init_128 : decode cX7_init 128 = .ok (.newarray .int, 2) := by decide +kernel
theorem dX7_init_130 : decode cX7_init 130 = .ok (.putfield 60, 3) := by decide +kernel
theorem dX7_init_133 : decode cX7_init 133 = .ok (.aload_n 0, 1) := by decide +kernel
theorem dX7_init_134 : decode cX7_init 134 = .ok (.sipush 1024, 3) := by decide +kernel
theorem dX7_init_137 : decode cX7_init 137 = .ok (.newarray .int, 2) := by decide +kernel
theorem dX7_init_139 : decode cX7_init 139 = .ok (.putfield 63, 3) := by decide +kernel
theorem dX7_init_142 : decode cX7_init 142 = .ok (.aload_n 0, 1) := by decide +kernel
theorem dX7_init_143 : decode cX7_init 143 = .ok (.bipush 20, 2) := by decide +kernel
theorem dX7_init_145 : decode cX7_init 145 = .ok (.newarray .int, 2) := by decide +kernel
theorem dX7_init_147 : decode cX7_init 147 = .ok (.putfield 66, 3) := by decide +kernel
theorem dX7_init_150 : decode cX7_init 150 = .ok (.aload_n 0, 1) := by decide +kernel
theorem dX7_init_151 : decode cX7_init 151 = .ok (.bipush 20, 2) := by decide +kernel
theorem dX7_init_153 : decode cX7_init 153 = .ok (.newarray .int, 2) := by decide +kernel
theorem dX7_init_155 : decode cX7_init 155 = .ok (.putfield 69, 3) := by decide +kernel
theorem dX7_init_158 : decode cX7_init 158 = .ok (.aload_n 0, 1) := by decide +kernel
theorem dX7_init_159 : decode cX7_init 159 = .ok (.getfield 39, 3) := by decide +kernel
theorem dX7_init_162 : decode cX7_init 162 = .ok (.iconst 0, 1) := by decide +kernel
theorem dX7_init_163 : decode cX7_init 163 = .ok (.iconst 0, 1) := by decide +kernel
theorem dX7_init_164 : decode cX7_init 164 = .ok (.iastore, 1) := by decide +kernel
theorem dX7_init_165 : decode cX7_init 165 = .ok (.aload_n 0, 1) := by decide +kernel
theorem dX7_init_166 : decode cX7_init 166 = .ok (.getfield 39, 3) := by decide +kernel
theorem dX7_init_169 : decode cX7_init 169 = .ok (.iconst 1, 1) := by decide +kernel
theorem dX7_init_170 : decode cX7_init 170 = .ok (.iconst 1, 1) := by decide +kernel
theorem dX7_init_171 : decode cX7_init 171 = .ok (.iastore, 1) := by decide +kernel
theorem dX7_init_172 : decode cX7_init 172 = .ok (.aload_n 0, 1) := by decide +kernel
theorem dX7_init_173 : decode cX7_init 173 = .ok (.iconst 2, 1) := by decide +kernel
theorem dX7_init_174 : decode cX7_init 174 = .ok (.putfield 72, 3) := by decide +kernel
theorem dX7_init_177 : decode cX7_init 177 = .ok (.return_, 1) := by decide +kernel
theorem dX7_in_0 : decode cX7_in 0 = .ok (.lload_n 0, 1) := by decide +kernel
theorem dX7_in_1 : decode cX7_in 1 = .ok (.lload_n 2, 1) := by decide +kernel
theorem dX7_in_2 : decode cX7_in 2 = .ok (.lcmp, 1) := by decide +kernel
theorem dX7_in_3 : decode cX7_in 3 = .ok (.ifCond .lt 14, 3) := by decide +kernel
theorem dX7_in_6 : decode cX7_in 6 = .ok (.lload_n 0, 1) := by decide +kernel
theorem dX7_in_7 : decode cX7_in 7 = .ok (.lload 4, 2) := by decide +kernel
theorem dX7_in_9 : decode cX7_in 9 = .ok (.lcmp, 1) := by decide +kernel
theorem dX7_in_10 : decode cX7_in 10 = .ok (.ifCond .gt 7, 3) := by decide +kernel
theorem dX7_in_13 : decode cX7_in 13 = .ok (.iconst 1, 1) := by decide +kernel
theorem dX7_in_14 : decode cX7_in 14 = .ok (.goto 4, 3) := by decide +kernel
theorem dX7_in_17 : decode cX7_in 17 = .ok (.iconst 0, 1) := by decide +kernel
theorem dX7_in_18 : decode cX7_in 18 = .ok (.ireturn, 1) := by decide +kernel
theorem dX7_one_0 : decode cX7_one 0 = .ok (.iload_n 0, 1) := by decide +kernel
theorem dX7_one_1 : decode cX7_one 1 = .ok (.ifCond .eq 7, 3) := by decide +kernel
theorem dX7_one_4 : decode cX7_one 4 = .ok (.iconst 1, 1) := by decide +kernel
theorem dX7_one_5 : decode cX7_one 5 = .ok (.goto 4, 3) := by decide +kernel
theorem dX7_one_8 : decode cX7_one 8 = .ok (.iconst 0, 1) := by decide +kernel
theorem dX7_one_9 : decode cX7_one 9 = .ok (.ireturn, 1) := by decide +kernel
theorem dX7_has_0 : decode cX7_has 0 = .ok (.iload_n 0, 1) := by decide +kernel
theorem dX7_has_1 : decode cX7_has 1 = .ok (.iload_n 1, 1) := by decide +kernel
theorem dX7_has_2 : decode cX7_has 2 = .ok (.ishr, 1) := by decide +kernel
theorem dX7_has_3 : decode cX7_has 3 = .ok (.iconst 1, 1) := by decide +kernel
theorem dX7_has_4 : decode cX7_has 4 = .ok (.iand, 1) := by decide +kernel
theorem dX7_has_5 : decode cX7_has 5 = .ok (.iconst 1, 1) := by decide +kernel
theorem dX7_has_6 : decode cX7_has 6 = .ok (.if_icmp .ne 7, 3) := by decide +kernel
theorem dX7_has_9 : decode cX7_has 9 = .ok (.iconst 1, 1) := by decide +kernel
theorem dX7_has_10 : decode cX7_has 10 = .ok (.goto 4, 3) := by decide +kernel
theorem dX7_has_13 : decode cX7_has 13 = .ok (.iconst 0, 1) := by decide +kernel
theorem dX7_has_14 : decode cX7_has 14 = .ok (.ireturn, 1) := by decide +kernel
theorem dX7_ones_0 : decode cX7_ones 0 = .ok (.iconst 0, 1) := by decide +kernel
theorem dX7_ones_1 : decode cX7_ones 1 = .ok (.istore_n 1, 1) := by decide +kernel
theorem dX7_ones_2 : decode cX7_ones 2 = .ok (.iconst 0, 1) := by decide +kernel
theorem dX7_ones_3 : decode cX7_ones 3 = .ok (.istore_n 2, 1) := by decide +kernel
theorem dX7_ones_4 : decode cX7_ones 4 = .ok (.iload_n 2, 1) := by decide +kernel
theorem dX7_ones_5 : decode cX7_ones 5 = .ok (.bipush 8, 2) := by decide +kernel
theorem dX7_ones_7 : decode cX7_ones 7 = .ok (.if_icmp .ge 17, 3) := by decide +kernel
theorem dX7_ones_10 : decode cX7_ones 10 = .ok (.iload_n 1, 1) := by decide +kernel
theorem dX7_ones_11 : decode cX7_ones 11 = .ok (.iload_n 0, 1) := by decide +kernel
theorem dX7_ones_12 : decode cX7_ones 12 = .ok (.iload_n 2, 1) := by decide +kernel
theorem dX7_ones_13 : decode cX7_ones 13 = .ok (.ishr, 1) := by decide +kernel
theorem dX7_ones_14 : decode cX7_ones 14 = .ok (.iconst 1, 1) := by decide +kernel
theorem dX7_ones_15 : decode cX7_ones 15 = .ok (.iand, 1) := by decide +kernel
theorem dX7_ones_16 : decode cX7_ones 16 = .ok (.iadd, 1) := by decide +kernel
theorem dX7_ones_17 : decode cX7_ones 17 = .ok (.istore_n 1, 1) := by decide +kernel
theorem dX7_ones_18 : decode cX7_ones 18 = .ok (.iinc 2 1, 3) := by decide +kernel
theorem dX7_ones_21 : decode cX7_ones 21 = .ok (.goto (-17), 3) := by decide +kernel
theorem dX7_ones_24 : decode cX7_ones 24 = .ok (.iload_n 1, 1) := by decide +kernel
theorem dX7_ones_25 : decode cX7_ones 25 = .ok (.ireturn, 1) := by decide +kernel
theorem dX7_size_0 : decode cX7_size 0 = .ok (.iload_n 0, 1) := by decide +kernel
theorem dX7_size_1 : decode cX7_size 1 = .ok (.ifCond .ge 8, 3) := by decide +kernel
theorem dX7_size_4 : decode cX7_size 4 = .ok (.iload_n 0, 1) := by decide +kernel
theorem dX7_size_5 : decode cX7_size 5 = .ok (.ineg, 1) := by decide +kernel
theorem dX7_size_6 : decode cX7_size 6 = .ok (.goto 4, 3) := by decide +kernel
theorem dX7_size_9 : decode cX7_size 9 = .ok (.iload_n 0, 1) := by decide +kernel
theorem dX7_size_10 : decode cX7_size 10 = .ok (.ireturn, 1) := by decide +kernel
theorem dX7_feed_0 : decode cX7_feed 0 = .ok (.iload_n 1, 1) := by decide +kernel
theorem dX7_feed_1 : decode cX7_feed 1 = .ok (.i2l, 1) := by decide +kernel
theorem dX7_feed_2 : decode cX7_feed 2 = .ok (.lconst 1, 1) := by decide +kernel
theorem dX7_feed_3 : decode cX7_feed 3 = .ok (.ldc2_w 75, 3) := by decide +kernel
theorem dX7_feed_6 : decode cX7_feed 6 = .ok (.invokestatic 77, 3) := by decide +kernel
theorem dX7_feed_9 : decode cX7_feed 9 = .ok (.ifCond .ne 6, 3) := by decide +kernel
theorem dX7_feed_12 : decode cX7_feed 12 = .ok (.ldc 81, 2) := by decide +kernel
theorem dX7_feed_14 : decode cX7_feed 14 = .ok (.ireturn, 1) := by decide +kernel
theorem dX7_feed_15 : decode cX7_feed 15 = .ok (.aload_n 0, 1) := by decide +kernel
theorem dX7_feed_16 : decode cX7_feed 16 = .ok (.getfield 82, 3) := by decide +kernel
theorem dX7_feed_19 : decode cX7_feed 19 = .ok (.iload_n 1, 1) := by decide +kernel
theorem dX7_feed_20 : decode cX7_feed 20 = .ok (.iadd, 1) := by decide +kernel
theorem dX7_feed_21 : decode cX7_feed 21 = .ok (.sipush 400, 3) := by decide +kernel
theorem dX7_feed_24 : decode cX7_feed 24 = .ok (.if_icmp .le 6, 3) := by decide +kernel
theorem dX7_feed_27 : decode cX7_feed 27 = .ok (.ldc 85, 2) := by decide +kernel
theorem dX7_feed_29 : decode cX7_feed 29 = .ok (.ireturn, 1) := by decide +kernel
theorem dX7_feed_30 : decode cX7_feed 30 = .ok (.iload_n 1, 1) := by decide +kernel
theorem dX7_feed_31 : decode cX7_feed 31 = .ok (.iconst 1, 1) := by decide +kernel
theorem dX7_feed_32 : decode cX7_feed 32 = .ok (.isub, 1) := by decide +kernel
theorem dX7_feed_33 : decode cX7_feed 33 = .ok (.istore 4, 2) := by decide +kernel
theorem dX7_feed_35 : decode cX7_feed 35 = .ok (.iload 4, 2) := by decide +kernel
theorem dX7_feed_37 : decode cX7_feed 37 = .ok (.ifCond .lt 40, 3) := by decide +kernel
theorem dX7_feed_40 : decode cX7_feed 40 = .ok (.aload_n 0, 1) := by decide +kernel
theorem dX7_feed_41 : decode cX7_feed 41 = .ok (.getfield 42, 3) := by decide +kernel
theorem dX7_feed_44 : decode cX7_feed 44 = .ok (.aload_n 0, 1) := by decide +kernel
theorem dX7_feed_45 : decode cX7_feed 45 = .ok (.getfield 82, 3) := by decide +kernel
theorem dX7_feed_48 : decode cX7_feed 48 = .ok (.lload_n 2, 1) := by decide +kernel
theorem dX7_feed_49 : decode cX7_feed 49 = .ok (.bipush 8, 2) := by decide +kernel
theorem dX7_feed_51 : decode cX7_feed 51 = .ok (.iload 4, 2) := by decide +kernel
theorem dX7_feed_53 : decode cX7_feed 53 = .ok (.imul, 1) := by decide +kernel
theorem dX7_feed_54 : decode cX7_feed 54 = .ok (.lshr, 1) := by decide +kernel
theorem dX7_feed_55 : decode cX7_feed 55 = .ok (.ldc2_w 86, 3) := by decide +kernel
theorem dX7_feed_58 : decode cX7_feed 58 = .ok (.land, 1) := by decide +kernel
theorem dX7_feed_59 : decode cX7_feed 59 = .ok (.l2i, 1) := by decide +kernel
theorem dX7_feed_60 : decode cX7_feed 60 = .ok (.iastore, 1) := by decide +kernel
theorem dX7_feed_61 : decode cX7_feed 61 = .ok (.aload_n 0, 1) := by decide +kernel
theorem dX7_feed_62 : decode cX7_feed 62 = .ok (.dup, 1) := by decide +kernel
theorem dX7_feed_63 : decode cX7_feed 63 = .ok (.getfield 82, 3) := by decide +kernel
theorem dX7_feed_66 : decode cX7_feed 66 = .ok (.iconst 1, 1) := by decide +kernel
theorem dX7_feed_67 : decode cX7_feed 67 = .ok (.iadd, 1) := by decide +kernel
theorem dX7_feed_68 : decode cX7_feed 68 = .ok (.putfield 82, 3) := by decide +kernel
theorem dX7_feed_71 : decode cX7_feed 71 = .ok (.iinc 4 (-1), 3) := by decide +kernel
theorem dX7_feed_74 : decode cX7_feed 74 = .ok (.goto (-39), 3) := by decide +kernel
theorem dX7_feed_77 : decode cX7_feed 77 = .ok (.aload_n 0, 1) := by decide +kernel
theorem dX7_feed_78 : decode cX7_feed 78 = .ok (.getfield 82, 3) := by decide +kernel
theorem dX7_feed_81 : decode cX7_feed 81 = .ok (.ireturn, 1) := by decide +kernel
theorem dX7_here_0 : decode cX7_here 0 = .ok (.aload_n 0, 1) := by decide +kernel
theorem dX7_here_1 : decode cX7_here 1 = .ok (.getfield 88, 3) := by decide +kernel
theorem dX7_here_4 : decode cX7_here 4 = .ok (.aload_n 0, 1) := by decide +kernel
theorem dX7_here_5 : decode cX7_here 5 = .ok (.getfield 82, 3) := by decide +kernel
theorem dX7_here_8 : decode cX7_here 8 = .ok (.if_icmp .ge 30, 3) := by decide +kernel
theorem dX7_here_11 : decode cX7_here 11 = .ok (.aload_n 0, 1) := by decide +kernel
theorem dX7_here_12 : decode cX7_here 12 = .ok (.getfield 42, 3) := by decide +kernel
theorem dX7_here_15 : decode cX7_here 15 = .ok (.aload_n 0, 1) := by decide +kernel
theorem dX7_here_16 : decode cX7_here 16 = .ok (.getfield 88, 3) := by decide +kernel
theorem dX7_here_19 : decode cX7_here 19 = .ok (.iaload, 1) := by decide +kernel
theorem dX7_here_20 : decode cX7_here 20 = .ok (.bipush 32, 2) := by decide +kernel
theorem dX7_here_22 : decode cX7_here 22 = .ok (.if_icmp .ne 16, 3) := by decide +kernel
theorem dX7_here_25 : decode cX7_here 25 = .ok (.aload_n 0, 1) := by decide +kernel
theorem dX7_here_26 : decode cX7_here 26 = .ok (.dup, 1) := by decide +kernel
theorem dX7_here_27 : decode cX7_here 27 = .ok (.getfield 88, 3) := by decide +kernel
theorem dX7_here_30 : decode cX7_here 30 = .ok (.iconst 1, 1) := by decide +kernel
theorem dX7_here_31 : decode cX7_here 31 = .ok (.iadd, 1) := by decide +kernel
theorem dX7_here_32 : decode cX7_here 32 = .ok (.putfield 88, 3) := by decide +kernel
theorem dX7_here_35 : decode cX7_here 35 = .ok (.goto (-35), 3) := by decide +kernel
theorem dX7_here_38 : decode cX7_here 38 = .ok (.aload_n 0, 1) := by decide +kernel
theorem dX7_here_39 : decode cX7_here 39 = .ok (.getfield 88, 3) := by decide +kernel
theorem dX7_here_42 : decode cX7_here 42 = .ok (.aload_n 0, 1) := by decide +kernel
theorem dX7_here_43 : decode cX7_here 43 = .ok (.getfield 82, 3) := by decide +kernel
theorem dX7_here_46 : decode cX7_here 46 = .ok (.if_icmp .ge 15, 3) := by decide +kernel
theorem dX7_here_49 : decode cX7_here 49 = .ok (.aload_n 0, 1) := by decide +kernel
theorem dX7_here_50 : decode cX7_here 50 = .ok (.getfield 42, 3) := by decide +kernel
theorem dX7_here_53 : decode cX7_here 53 = .ok (.aload_n 0, 1) := by decide +kernel
theorem dX7_here_54 : decode cX7_here 54 = .ok (.getfield 88, 3) := by decide +kernel
theorem dX7_here_57 : decode cX7_here 57 = .ok (.iaload, 1) := by decide +kernel
theorem dX7_here_58 : decode cX7_here 58 = .ok (.goto 4, 3) := by decide +kernel
theorem dX7_here_61 : decode cX7_here 61 = .ok (.iconst (-1), 1) := by decide +kernel
theorem dX7_here_62 : decode cX7_here 62 = .ok (.ireturn, 1) := by decide +kernel
theorem dX7_want_0 : decode cX7_want 0 = .ok (.iload_n 1, 1) := by decide +kernel
theorem dX7_want_1 : decode cX7_want 1 = .ok (.ifCond .ne 20, 3) := by decide +kernel
theorem dX7_want_4 : decode cX7_want 4 = .ok (.aload_n 0, 1) := by decide +kernel
theorem dX7_want_5 : decode cX7_want 5 = .ok (.getfield 91, 3) := by decide +kernel
theorem dX7_want_8 : decode cX7_want 8 = .ok (.ifCond .ne 13, 3) := by decide +kernel
theorem dX7_want_11 : decode cX7_want 11 = .ok (.aload_n 0, 1) := by decide +kernel
theorem dX7_want_12 : decode cX7_want 12 = .ok (.iload_n 2, 1) := by decide +kernel
theorem dX7_want_13 : decode cX7_want 13 = .ok (.putfield 91, 3) := by decide +kernel
theorem dX7_want_16 : decode cX7_want 16 = .ok (.aload_n 0, 1) := by decide +kernel
theorem dX7_want_17 : decode cX7_want 17 = .ok (.iload_n 3, 1) := by decide +kernel
theorem dX7_want_18 : decode cX7_want 18 = .ok (.putfield 45, 3) := by decide +kernel
theorem dX7_want_21 : decode cX7_want 21 = .ok (.aload_n 0, 1) := by decide +kernel
theorem dX7_want_22 : decode cX7_want 22 = .ok (.getfield 91, 3) := by decide +kernel
theorem dX7_want_25 : decode cX7_want 25 = .ok (.ifCond .ne 7, 3) := by decide +kernel
theorem dX7_want_28 : decode cX7_want 28 = .ok (.iconst 1, 1) := by decide +kernel
theorem dX7_want_29 : decode cX7_want 29 = .ok (.goto 4, 3) := by decide +kernel
theorem dX7_want_32 : decode cX7_want 32 = .ok (.iconst 0, 1) := by decide +kernel
theorem dX7_want_33 : decode cX7_want 33 = .ok (.ireturn, 1) := by decide +kernel
theorem dX7_takeWord_0 : decode cX7_takeWord 0 = .ok (.aload_n 0, 1) := by decide +kernel
theorem dX7_takeWord_1 : decode cX7_takeWord 1 = .ok (.invokevirtual 94, 3) := by decide +kernel
theorem dX7_takeWord_4 : decode cX7_takeWord 4 = .ok (.istore_n 1, 1) := by decide +kernel
theorem dX7_takeWord_5 : decode cX7_takeWord 5 = .ok (.aload_n 0, 1) := by decide +kernel
theorem dX7_takeWord_6 : decode cX7_takeWord 6 = .ok (.aload_n 0, 1) := by decide +kernel
theorem dX7_takeWord_7 : decode cX7_takeWord 7 = .ok (.getfield 88, 3) := by decide +kernel
theorem dX7_takeWord_10 : decode cX7_takeWord 10 = .ok (.putfield 98, 3) := by decide +kernel
theorem dX7_takeWord_13 : decode cX7_takeWord 13 = .ok (.aload_n 0, 1) := by decide +kernel
theorem dX7_takeWord_14 : decode cX7_takeWord 14 = .ok (.getfield 88, 3) := by decide +kernel
theorem dX7_takeWord_17 : decode cX7_takeWord 17 = .ok (.aload_n 0, 1) := by decide +kernel
theorem dX7_takeWord_18 : decode cX7_takeWord 18 = .ok (.getfield 82, 3) := by decide +kernel
theorem dX7_takeWord_21 : decode cX7_takeWord 21 = .ok (.if_icmp .ge 38, 3) := by decide +kernel
theorem dX7_takeWord_24 : decode cX7_takeWord 24 = .ok (.aload_n 0, 1) := by decide +kernel
theorem dX7_takeWord_25 : decode cX7_takeWord 25 = .ok (.getfield 42, 3) := by decide +kernel
theorem dX7_takeWord_28 : decode cX7_takeWord 28 = .ok (.aload_n 0, 1) := by decide +kernel
theorem dX7_takeWord_29 : decode cX7_takeWord 29 = .ok (.getfield 88, 3) := by decide +kernel
theorem dX7_takeWord_32 : decode cX7_takeWord 32 = .ok (.iaload, 1) := by decide +kernel
theorem dX7_takeWord_33 : decode cX7_takeWord 33 = .ok (.i2l, 1) := by decide +kernel
theorem dX7_takeWord_34 : decode cX7_takeWord 34 = .ok (.ldc2_w 101, 3) := by decide +kernel
theorem dX7_takeWord_37 : decode cX7_takeWord 37 = .ok (.ldc2_w 103, 3) := by decide +kernel
theorem dX7_takeWord_40 : decode cX7_takeWord 40 = .ok (.invokestatic 77, 3) := by decide +kernel
theorem dX7_takeWord_43 : decode cX7_takeWord 43 = .ok (.ifCond .eq 16, 3) := by decide +kernel
theorem dX7_takeWord_46 : decode cX7_takeWord 46 = .ok (.aload_n 0, 1) := by decide +kernel
theorem dX7_takeWord_47 : decode cX7_takeWord 47 = .ok (.dup, 1) := by decide +kernel
theorem dX7_takeWord_48 : decode cX7_takeWord 48 = .ok (.getfield 88, 3) := by decide +kernel
theorem dX7_takeWord_51 : decode cX7_takeWord 51 = .ok (.iconst 1, 1) := by decide +kernel
theorem dX7_takeWord_52 : decode cX7_takeWord 52 = .ok (.iadd, 1) := by decide +kernel
theorem dX7_takeWord_53 : decode cX7_takeWord 53 = .ok (.putfield 88, 3) := by decide +kernel
theorem dX7_takeWord_56 : decode cX7_takeWord 56 = .ok (.goto (-43), 3) := by decide +kernel
theorem dX7_takeWord_59 : decode cX7_takeWord 59 = .ok (.aload_n 0, 1) := by decide +kernel
theorem dX7_takeWord_60 : decode cX7_takeWord 60 = .ok (.aload_n 0, 1) := by decide +kernel
theorem dX7_takeWord_61 : decode cX7_takeWord 61 = .ok (.getfield 88, 3) := by decide +kernel
theorem dX7_takeWord_64 : decode cX7_takeWord 64 = .ok (.aload_n 0, 1) := by decide +kernel
theorem dX7_takeWord_65 : decode cX7_takeWord 65 = .ok (.getfield 98, 3) := by decide +kernel
theorem dX7_takeWord_68 : decode cX7_takeWord 68 = .ok (.isub, 1) := by decide +kernel
theorem dX7_takeWord_69 : decode cX7_takeWord 69 = .ok (.putfield 105, 3) := by decide +kernel
theorem dX7_takeWord_72 : decode cX7_takeWord 72 = .ok (.return_, 1) := by decide +kernel
theorem dX7_isWord_0 : decode cX7_isWord 0 = .ok (.aload_n 0, 1) := by decide +kernel
theorem dX7_isWord_1 : decode cX7_isWord 1 = .ok (.getfield 105, 3) := by decide +kernel
theorem dX7_isWord_4 : decode cX7_isWord 4 = .ok (.iload_n 1, 1) := by decide +kernel
theorem dX7_isWord_5 : decode cX7_isWord 5 = .ok (.if_icmp .ne 7, 3) := by decide +kernel
theorem dX7_isWord_8 : decode cX7_isWord 8 = .ok (.iconst 1, 1) := by decide +kernel
theorem dX7_isWord_9 : decode cX7_isWord 9 = .ok (.goto 4, 3) := by decide +kernel
theorem dX7_isWord_12 : decode cX7_isWord 12 = .ok (.iconst 0, 1) := by decide +kernel
theorem dX7_isWord_13 : decode cX7_isWord 13 = .ok (.istore 7, 2) := by decide +kernel
theorem dX7_isWord_15 : decode cX7_isWord 15 = .ok (.iconst 0, 1) := by decide +kernel
theorem dX7_isWord_16 : decode cX7_isWord 16 = .ok (.istore 8, 2) := by decide +kernel
theorem dX7_isWord_18 : decode cX7_isWord 18 = .ok (.iload 8, 2) := by decide +kernel
theorem dX7_isWord_20 : decode cX7_isWord 20 = .ok (.iload_n 1, 1) := by decide +kernel
theorem dX7_isWord_21 : decode cX7_isWord 21 = .ok (.if_icmp .ge 79, 3) := by decide +kernel
theorem dX7_isWord_24 : decode cX7_isWord 24 = .ok (.iload 7, 2) := by decide +kernel
theorem dX7_isWord_26 : decode cX7_isWord 26 = .ok (.ifCond .eq 74, 3) := by decide +kernel
theorem dX7_isWord_29 : decode cX7_isWord 29 = .ok (.aload_n 0, 1) := by decide +kernel
theorem dX7_isWord_30 : decode cX7_isWord 30 = .ok (.getfield 42, 3) := by decide +kernel
theorem dX7_isWord_33 : decode cX7_isWord 33 = .ok (.aload_n 0, 1) := by decide +kernel
theorem dX7_isWord_34 : decode cX7_isWord 34 = .ok (.getfield 98, 3) := by decide +kernel
theorem dX7_isWord_37 : decode cX7_isWord 37 = .ok (.iload 8, 2) := by decide +kernel
theorem dX7_isWord_39 : decode cX7_isWord 39 = .ok (.iadd, 1) := by decide +kernel
theorem dX7_isWord_40 : decode cX7_isWord 40 = .ok (.iaload, 1) := by decide +kernel
theorem dX7_isWord_41 : decode cX7_isWord 41 = .ok (.iload 8, 2) := by decide +kernel
theorem dX7_isWord_43 : decode cX7_isWord 43 = .ok (.ifCond .ne 7, 3) := by decide +kernel
theorem dX7_isWord_46 : decode cX7_isWord 46 = .ok (.iload_n 2, 1) := by decide +kernel
theorem dX7_isWord_47 : decode cX7_isWord 47 = .ok (.goto 37, 3) := by decide +kernel
theorem dX7_isWord_50 : decode cX7_isWord 50 = .ok (.iload 8, 2) := by decide +kernel
theorem dX7_isWord_52 : decode cX7_isWord 52 = .ok (.iconst 1, 1) := by decide +kernel
theorem dX7_isWord_53 : decode cX7_isWord 53 = .ok (.if_icmp .ne 7, 3) := by decide +kernel
theorem dX7_isWord_56 : decode cX7_isWord 56 = .ok (.iload_n 3, 1) := by decide +kernel
theorem dX7_isWord_57 : decode cX7_isWord 57 = .ok (.goto 27, 3) := by decide +kernel
theorem dX7_isWord_60 : decode cX7_isWord 60 = .ok (.iload 8, 2) := by decide +kernel
theorem dX7_isWord_62 : decode cX7_isWord 62 = .ok (.iconst 2, 1) := by decide +kernel
theorem dX7_isWord_63 : decode cX7_isWord 63 = .ok (.if_icmp .ne 8, 3) := by decide +kernel
theorem dX7_isWord_66 : decode cX7_isWord 66 = .ok (.iload 4, 2) := by decide +kernel
theorem dX7_isWord_68 : decode cX7_isWord 68 = .ok (.goto 16, 3) := by decide +kernel
theorem dX7_isWord_71 : decode cX7_isWord 71 = .ok (.iload 8, 2) := by decide +kernel
theorem dX7_isWord_73 : decode cX7_isWord 73 = .ok (.iconst 3, 1) := by decide +kernel
theorem dX7_isWord_74 : decode cX7_isWord 74 = .ok (.if_icmp .ne 8, 3) := by decide +kernel
theorem dX7_isWord_77 : decode cX7_isWord 77 = .ok (.iload 5, 2) := by decide +kernel
theorem dX7_isWord_79 : decode cX7_isWord 79 = .ok (.goto 5, 3) := by decide +kernel
theorem dX7_isWord_82 : decode cX7_isWord 82 = .ok (.iload 6, 2) := by decide +kernel
theorem dX7_isWord_84 : decode cX7_isWord 84 = .ok (.if_icmp .ne 7, 3) := by decide +kernel
theorem dX7_isWord_87 : decode cX7_isWord 87 = .ok (.iconst 1, 1) := by decide +kernel
theorem dX7_isWord_88 : decode cX7_isWord 88 = .ok (.goto 4, 3) := by decide +kernel
theorem dX7_isWord_91 : decode cX7_isWord 91 = .ok (.iconst 0, 1) := by decide +kernel
theorem dX7_isWord_92 : decode cX7_isWord 92 = .ok (.istore 7, 2) := by decide +kernel
theorem dX7_isWord_94 : decode cX7_isWord 94 = .ok (.iinc 8 1, 3) := by decide +kernel
theorem dX7_isWord_97 : decode cX7_isWord 97 = .ok (.goto (-79), 3) := by decide +kernel
theorem dX7_isWord_100 : decode cX7_isWord 100 = .ok (.iload 7, 2) := by decide +kernel
theorem dX7_isWord_102 : decode cX7_isWord 102 = .ok (.ireturn, 1) := by decide +kernel
theorem dX7_takeNumber_0 : decode cX7_takeNumber 0 = .ok (.aload_n 0, 1) := by decide +kernel
theorem dX7_takeNumber_1 : decode cX7_takeNumber 1 = .ok (.getfield 91, 3) := by decide +kernel
theorem dX7_takeNumber_4 : decode cX7_takeNumber 4 = .ok (.ifCond .le 5, 3) := by decide +kernel
theorem dX7_takeNumber_7 : decode cX7_takeNumber 7 = .ok (.iconst 0, 1) := by decide +kernel
theorem dX7_takeNumber_8 : decode cX7_takeNumber 8 = .ok (.ireturn, 1) := by decide +kernel
theorem dX7_takeNumber_9 : decode cX7_takeNumber 9 = .ok (.aload_n 0, 1) := by decide +kernel
theorem dX7_takeNumber_10 : decode cX7_takeNumber 10 = .ok (.invokevirtual 94, 3) := by decide +kernel
theorem dX7_takeNumber_13 : decode cX7_takeNumber 13 = .ok (.istore_n 3, 1) := by decide +kernel
theorem dX7_takeNumber_14 : decode cX7_takeNumber 14 = .ok (.aload_n 0, 1) := by decide +kernel
theorem dX7_takeNumber_15 : decode cX7_takeNumber 15 = .ok (.aload_n 0, 1) := by decide +kernel
theorem dX7_takeNumber_16 : decode cX7_takeNumber 16 = .ok (.getfield 88, 3) := by decide +kernel
theorem dX7_takeNumber_19 : decode cX7_takeNumber 19 = .ok (.putfield 98, 3) := by decide +kernel
theorem dX7_takeNumber_22 : decode cX7_takeNumber 22 = .ok (.aload_n 0, 1) := by decide +kernel
theorem dX7_takeNumber_23 : decode cX7_takeNumber 23 = .ok (.iload_n 3, 1) := by decide +kernel
theorem dX7_takeNumber_24 : decode cX7_takeNumber 24 = .ok (.i2l, 1) := by decide +kernel
theorem dX7_takeNumber_25 : decode cX7_takeNumber 25 = .ok (.ldc2_w 108, 3) := by decide +kernel
theorem dX7_takeNumber_28 : decode cX7_takeNumber 28 = .ok (.ldc2_w 110, 3) := by decide +kernel
theorem dX7_takeNumber_31 : decode cX7_takeNumber 31 = .ok (.invokestatic 77, 3) := by decide +kernel
theorem dX7_takeNumber_34 : decode cX7_takeNumber 34 = .ok (.iconst 1, 1) := by decide +kernel
theorem dX7_takeNumber_35 : decode cX7_takeNumber 35 = .ok (.aload_n 0, 1) := by decide +kernel
theorem dX7_takeNumber_36 : decode cX7_takeNumber 36 = .ok (.getfield 88, 3) := by decide +kernel
theorem dX7_takeNumber_39 : decode cX7_takeNumber 39 = .ok (.invokevirtual 112, 3) := by decide +kernel
theorem dX7_takeNumber_42 : decode cX7_takeNumber 42 = .ok (.ifCond .ne 5, 3) := by decide +kernel
theorem dX7_takeNumber_45 : decode cX7_takeNumber 45 = .ok (.iconst 0, 1) := by decide +kernel
theorem dX7_takeNumber_46 : decode cX7_takeNumber 46 = .ok (.ireturn, 1) := by decide +kernel
theorem dX7_takeNumber_47 : decode cX7_takeNumber 47 = .ok (.iconst 0, 1) := by decide +kernel
theorem dX7_takeNumber_48 : decode cX7_takeNumber 48 = .ok (.istore 4, 2) := by decide +kernel
theorem dX7_takeNumber_50 : decode cX7_takeNumber 50 = .ok (.aload_n 0, 1) := by decide +kernel
theorem dX7_takeNumber_51 : decode cX7_takeNumber 51 = .ok (.getfield 88, 3) := by decide +kernel
theorem dX7_takeNumber_54 : decode cX7_takeNumber 54 = .ok (.aload_n 0, 1) := by decide +kernel
theorem dX7_takeNumber_55 : decode cX7_takeNumber 55 = .ok (.getfield 82, 3) := by decide +kernel
theorem dX7_takeNumber_58 : decode cX7_takeNumber 58 = .ok (.if_icmp .ge 70, 3) := by decide +kernel
theorem dX7_takeNumber_61 : decode cX7_takeNumber 61 = .ok (.aload_n 0, 1) := by decide +kernel
theorem dX7_takeNumber_62 : decode cX7_takeNumber 62 = .ok (.getfield 42, 3) := by decide +kernel
theorem dX7_takeNumber_65 : decode cX7_takeNumber 65 = .ok (.aload_n 0, 1) := by decide +kernel
theorem dX7_takeNumber_66 : decode cX7_takeNumber 66 = .ok (.getfield 88, 3) := by decide +kernel
theorem dX7_takeNumber_69 : decode cX7_takeNumber 69 = .ok (.iaload, 1) := by decide +kernel
theorem dX7_takeNumber_70 : decode cX7_takeNumber 70 = .ok (.i2l, 1) := by decide +kernel
theorem dX7_takeNumber_71 : decode cX7_takeNumber 71 = .ok (.ldc2_w 108, 3) := by decide +kernel
theorem dX7_takeNumber_74 : decode cX7_takeNumber 74 = .ok (.ldc2_w 110, 3) := by decide +kernel
theorem dX7_takeNumber_77 : decode cX7_takeNumber 77 = .ok (.invokestatic 77, 3) := by decide +kernel
theorem dX7_takeNumber_80 : decode cX7_takeNumber 80 = .ok (.ifCond .eq 48, 3) := by decide +kernel
theorem dX7_takeNumber_83 : decode cX7_takeNumber 83 = .ok (.iload 4, 2) := by decide +kernel
theorem dX7_takeNumber_85 : decode cX7_takeNumber 85 = .ok (.ldc 116, 2) := by decide +kernel
theorem dX7_takeNumber_87 : decode cX7_takeNumber 87 = .ok (.if_icmp .le 8, 3) := by decide +kernel
theorem dX7_takeNumber_90 : decode cX7_takeNumber 90 = .ok (.iload 4, 2) := by decide +kernel
theorem dX7_takeNumber_92 : decode cX7_takeNumber 92 = .ok (.goto 21, 3) := by decide +kernel
theorem dX7_takeNumber_95 : decode cX7_takeNumber 95 = .ok (.bipush 10, 2) := by decide +kernel
theorem dX7_takeNumber_97 : decode cX7_takeNumber 97 = .ok (.iload 4, 2) := by decide +kernel
theorem dX7_takeNumber_99 : decode cX7_takeNumber 99 = .ok (.imul, 1) := by decide +kernel
theorem dX7_takeNumber_100 : decode cX7_takeNumber 100 = .ok (.aload_n 0, 1) := by decide +kernel
theorem dX7_takeNumber_101 : decode cX7_takeNumber 101 = .ok (.getfield 42, 3) := by decide +kernel
theorem dX7_takeNumber_104 : decode cX7_takeNumber 104 = .ok (.aload_n 0, 1) := by decide +kernel
theorem dX7_takeNumber_105 : decode cX7_takeNumber 105 = .ok (.getfield 88, 3) := by decide +kernel
theorem dX7_takeNumber_108 : decode cX7_takeNumber 108 = .ok (.iaload, 1) := by decide +kernel
theorem dX7_takeNumber_109 : decode cX7_takeNumber 109 = .ok (.iadd, 1) := by decide +kernel
theorem dX7_takeNumber_110 : decode cX7_takeNumber 110 = .ok (.bipush 48, 2) := by decide +kernel
theorem dX7_takeNumber_112 : decode cX7_takeNumber 112 = .ok (.isub, 1) := by decide +kernel
theorem dX7_takeNumber_113 : decode cX7_takeNumber 113 = .ok (.istore 4, 2) := by decide +kernel
theorem dX7_takeNumber_115 : decode cX7_takeNumber 115 = .ok (.aload_n 0, 1) := by decide +kernel
theorem dX7_takeNumber_116 : decode cX7_takeNumber 116 = .ok (.dup, 1) := by decide +kernel
theorem dX7_takeNumber_117 : decode cX7_takeNumber 117 = .ok (.getfield 88, 3) := by decide +kernel
theorem dX7_takeNumber_120 : decode cX7_takeNumber 120 = .ok (.iconst 1, 1) := by decide +kernel
theorem dX7_takeNumber_121 : decode cX7_takeNumber 121 = .ok (.iadd, 1) := by decide +kernel
theorem dX7_takeNumber_122 : decode cX7_takeNumber 122 = .ok (.putfield 88, 3) := by decide +kernel
theorem dX7_takeNumber_125 : decode cX7_takeNumber 125 = .ok (.goto (-75), 3) := by decide +kernel
theorem dX7_takeNumber_128 : decode cX7_takeNumber 128 = .ok (.aload_n 0, 1) := by decide +kernel
theorem dX7_takeNumber_129 : decode cX7_takeNumber 129 = .ok (.aload_n 0, 1) := by decide +kernel
theorem dX7_takeNumber_130 : decode cX7_takeNumber 130 = .ok (.getfield 88, 3) := by decide +kernel
theorem dX7_takeNumber_133 : decode cX7_takeNumber 133 = .ok (.aload_n 0, 1) := by decide +kernel
theorem dX7_takeNumber_134 : decode cX7_takeNumber 134 = .ok (.getfield 98, 3) := by decide +kernel
theorem dX7_takeNumber_137 : decode cX7_takeNumber 137 = .ok (.isub, 1) := by decide +kernel
theorem dX7_takeNumber_138 : decode cX7_takeNumber 138 = .ok (.iconst 4, 1) := by decide +kernel
theorem dX7_takeNumber_139 : decode cX7_takeNumber 139 = .ok (.if_icmp .ge 20, 3) := by decide +kernel
theorem dX7_takeNumber_142 : decode cX7_takeNumber 142 = .ok (.iload 4, 2) := by decide +kernel
theorem dX7_takeNumber_144 : decode cX7_takeNumber 144 = .ok (.i2l, 1) := by decide +kernel
theorem dX7_takeNumber_145 : decode cX7_takeNumber 145 = .ok (.iload_n 1, 1) := by decide +kernel
theorem dX7_takeNumber_146 : decode cX7_takeNumber 146 = .ok (.i2l, 1) := by decide +kernel
theorem dX7_takeNumber_147 : decode cX7_takeNumber 147 = .ok (.iload_n 2, 1) := by decide +kernel
theorem dX7_takeNumber_148 : decode cX7_takeNumber 148 = .ok (.i2l, 1) := by decide +kernel
theorem dX7_takeNumber_149 : decode cX7_takeNumber 149 = .ok (.invokestatic 77, 3) := by decide +kernel
theorem dX7_takeNumber_152 : decode cX7_takeNumber 152 = .ok (.ifCond .eq 7, 3) := by decide +kernel
theorem dX7_takeNumber_155 : decode cX7_takeNumber 155 = .ok (.iconst 1, 1) := by decide +kernel
theorem dX7_takeNumber_156 : decode cX7_takeNumber 156 = .ok (.goto 4, 3) := by decide +kernel
theorem dX7_takeNumber_159 : decode cX7_takeNumber 159 = .ok (.iconst 0, 1) := by decide +kernel
theorem dX7_takeNumber_160 : decode cX7_takeNumber 160 = .ok (.iconst 2, 1) := by decide +kernel
theorem dX7_takeNumber_161 : decode cX7_takeNumber 161 = .ok (.aload_n 0, 1) := by decide +kernel
theorem dX7_takeNumber_162 : decode cX7_takeNumber 162 = .ok (.getfield 98, 3) := by decide +kernel
theorem dX7_takeNumber_165 : decode cX7_takeNumber 165 = .ok (.invokevirtual 112, 3) := by decide +kernel
theorem dX7_takeNumber_168 : decode cX7_takeNumber 168 = .ok (.istore 5, 2) := by decide +kernel
theorem dX7_takeNumber_170 : decode cX7_takeNumber 170 = .ok (.iload 4, 2) := by decide +kernel
theorem dX7_takeNumber_172 : decode cX7_takeNumber 172 = .ok (.ireturn, 1) := by decide +kernel
theorem dX7_takeEnd_0 : decode cX7_takeEnd 0 = .ok (.aload_n 0, 1) := by decide +kernel
theorem dX7_takeEnd_1 : decode cX7_takeEnd 1 = .ok (.getfield 91, 3) := by decide +kernel
theorem dX7_takeEnd_4 : decode cX7_takeEnd 4 = .ok (.ifCond .ne 39, 3) := by decide +kernel
theorem dX7_takeEnd_7 : decode cX7_takeEnd 7 = .ok (.aload_n 0, 1) := by decide +kernel
theorem dX7_takeEnd_8 : decode cX7_takeEnd 8 = .ok (.aload_n 0, 1) := by decide +kernel
theorem dX7_takeEnd_9 : decode cX7_takeEnd 9 = .ok (.invokevirtual 94, 3) := by decide +kernel
theorem dX7_takeEnd_12 : decode cX7_takeEnd 12 = .ok (.bipush 59, 2) := by decide +kernel
theorem dX7_takeEnd_14 : decode cX7_takeEnd 14 = .ok (.if_icmp .ne 7, 3) := by decide +kernel
theorem dX7_takeEnd_17 : decode cX7_takeEnd 17 = .ok (.iconst 1, 1) := by decide +kernel
theorem dX7_takeEnd_18 : decode cX7_takeEnd 18 = .ok (.goto 4, 3) := by decide +kernel
theorem dX7_takeEnd_21 : decode cX7_takeEnd 21 = .ok (.iconst 0, 1) := by decide +kernel
theorem dX7_takeEnd_22 : decode cX7_takeEnd 22 = .ok (.iconst 1, 1) := by decide +kernel
theorem dX7_takeEnd_23 : decode cX7_takeEnd 23 = .ok (.aload_n 0, 1) := by decide +kernel
theorem dX7_takeEnd_24 : decode cX7_takeEnd 24 = .ok (.getfield 88, 3) := by decide +kernel
theorem dX7_takeEnd_27 : decode cX7_takeEnd 27 = .ok (.invokevirtual 112, 3) := by decide +kernel
theorem dX7_takeEnd_30 : decode cX7_takeEnd 30 = .ok (.ifCond .eq 13, 3) := by decide +kernel
theorem dX7_takeEnd_33 : decode cX7_takeEnd 33 = .ok (.aload_n 0, 1) := by decide +kernel
theorem dX7_takeEnd_34 : decode cX7_takeEnd 34 = .ok (.dup, 1) := by decide +kernel
theorem dX7_takeEnd_35 : decode cX7_takeEnd 35 = .ok (.getfield 88, 3) := by decide +kernel
theorem dX7_takeEnd_38 : decode cX7_takeEnd 38 = .ok (.iconst 1, 1) := by decide +kernel
theorem dX7_takeEnd_39 : decode cX7_takeEnd 39 = .ok (.iadd, 1) := by decide +kernel
theorem dX7_takeEnd_40 : decode cX7_takeEnd 40 = .ok (.putfield 88, 3) := by decide +kernel
theorem dX7_takeEnd_43 : decode cX7_takeEnd 43 = .ok (.return_, 1) := by decide +kernel
theorem dX7_takeClause_0 : decode cX7_takeClause 0 = .ok (.aload_n 0, 1) := by decide +kernel
theorem dX7_takeClause_1 : decode cX7_takeClause 1 = .ok (.invokevirtual 117, 3) := by decide +kernel
theorem dX7_takeClause_4 : decode cX7_takeClause 4 = .ok (.aload_n 0, 1) := by decide +kernel
theorem dX7_takeClause_5 : decode cX7_takeClause 5 = .ok (.getfield 98, 3) := by decide +kernel
theorem dX7_takeClause_8 : decode cX7_takeClause 8 = .ok (.istore_n 1, 1) := by decide +kernel
theorem dX7_takeClause_9 : decode cX7_takeClause 9 = .ok (.aload_n 0, 1) := by decide +kernel
theorem dX7_takeClause_10 : decode cX7_takeClause 10 = .ok (.iconst 3, 1) := by decide +kernel
theorem dX7_takeClause_11 : decode cX7_takeClause 11 = .ok (.bipush 115, 2) := by decide +kernel
theorem dX7_takeClause_13 : decode cX7_takeClause 13 = .ok (.bipush 117, 2) := by decide +kernel
theorem dX7_takeClause_15 : decode cX7_takeClause 15 = .ok (.bipush 110, 2) := by decide +kernel
theorem dX7_takeClause_17 : decode cX7_takeClause 17 = .ok (.iconst 0, 1) := by decide +kernel
theorem dX7_takeClause_18 : decode cX7_takeClause 18 = .ok (.iconst 0, 1) := by decide +kernel
theorem dX7_takeClause_19 : decode cX7_takeClause 19 = .ok (.invokevirtual 120, 3) := by decide +kernel
theorem dX7_takeClause_22 : decode cX7_takeClause 22 = .ok (.ifCond .eq 54, 3) := by decide +kernel
theorem dX7_takeClause_25 : decode cX7_takeClause 25 = .ok (.aload_n 0, 1) := by decide +kernel
theorem dX7_takeClause_26 : decode cX7_takeClause 26 = .ok (.aload_n 0, 1) := by decide +kernel
theorem dX7_takeClause_27 : decode cX7_takeClause 27 = .ok (.getfield 124, 3) := by decide +kernel
theorem dX7_takeClause_30 : decode cX7_takeClause 30 = .ok (.ifCond .ne 7, 3) := by decide +kernel
theorem dX7_takeClause_33 : decode cX7_takeClause 33 = .ok (.iconst 1, 1) := by decide +kernel
theorem dX7_takeClause_34 : decode cX7_takeClause 34 = .ok (.goto 4, 3) := by decide +kernel
theorem dX7_takeClause_37 : decode cX7_takeClause 37 = .ok (.iconst 0, 1) := by decide +kernel
theorem dX7_takeClause_38 : decode cX7_takeClause 38 = .ok (.iconst 3, 1) := by decide +kernel
theorem dX7_takeClause_39 : decode cX7_takeClause 39 = .ok (.iload_n 1, 1) := by decide +kernel
theorem dX7_takeClause_40 : decode cX7_takeClause 40 = .ok (.invokevirtual 112, 3) := by decide +kernel
theorem dX7_takeClause_43 : decode cX7_takeClause 43 = .ok (.ifCond .eq 217, 3) := by decide +kernel
theorem dX7_takeClause_46 : decode cX7_takeClause 46 = .ok (.aload_n 0, 1) := by decide +kernel
theorem dX7_takeClause_47 : decode cX7_takeClause 47 = .ok (.iconst 1, 1) := by decide +kernel
theorem dX7_takeClause_48 : decode cX7_takeClause 48 = .ok (.putfield 124, 3) := by decide +kernel
theorem dX7_takeClause_51 : decode cX7_takeClause 51 = .ok (.aload_n 0, 1) := by decide +kernel
theorem dX7_takeClause_52 : decode cX7_takeClause 52 = .ok (.aload_n 0, 1) := by decide +kernel
theorem dX7_takeClause_53 : decode cX7_takeClause 53 = .ok (.iconst 1, 1) := by decide +kernel
theorem dX7_takeClause_54 : decode cX7_takeClause 54 = .ok (.bipush 20, 2) := by decide +kernel
theorem dX7_takeClause_56 : decode cX7_takeClause 56 = .ok (.invokevirtual 128, 3) := by decide +kernel
theorem dX7_takeClause_59 : decode cX7_takeClause 59 = .ok (.putfield 132, 3) := by decide +kernel
theorem dX7_takeClause_62 : decode cX7_takeClause 62 = .ok (.aload_n 0, 1) := by decide +kernel
theorem dX7_takeClause_63 : decode cX7_takeClause 63 = .ok (.aload_n 0, 1) := by decide +kernel
theorem dX7_takeClause_64 : decode cX7_takeClause 64 = .ok (.iconst 0, 1) := by decide +kernel
theorem dX7_takeClause_65 : decode cX7_takeClause 65 = .ok (.bipush 20, 2) := by decide +kernel
theorem dX7_takeClause_67 : decode cX7_takeClause 67 = .ok (.invokevirtual 128, 3) := by decide +kernel
theorem dX7_takeClause_70 : decode cX7_takeClause 70 = .ok (.putfield 135, 3) := by decide +kernel
theorem dX7_takeClause_73 : decode cX7_takeClause 73 = .ok (.goto 187, 3) := by decide +kernel
theorem dX7_takeClause_76 : decode cX7_takeClause 76 = .ok (.aload_n 0, 1) := by decide +kernel
theorem dX7_takeClause_77 : decode cX7_takeClause 77 = .ok (.iconst 4, 1) := by decide +kernel
theorem dX7_takeClause_78 : decode cX7_takeClause 78 = .ok (.bipush 121, 2) := by decide +kernel
theorem dX7_takeClause_80 : decode cX7_takeClause 80 = .ok (.bipush 97, 2) := by decide +kernel
theorem dX7_takeClause_82 : decode cX7_takeClause 82 = .ok (.bipush 114, 2) := by decide +kernel
theorem dX7_takeClause_84 : decode cX7_takeClause 84 = .ok (.bipush 100, 2) := by decide +kernel
theorem dX7_takeClause_86 : decode cX7_takeClause 86 = .ok (.iconst 0, 1) := by decide +kernel
theorem dX7_takeClause_87 : decode cX7_takeClause 87 = .ok (.invokevirtual 120, 3) := by decide +kernel
theorem dX7_takeClause_90 : decode cX7_takeClause 90 = .ok (.ifCond .eq 62, 3) := by decide +kernel
theorem dX7_takeClause_93 : decode cX7_takeClause 93 = .ok (.aload_n 0, 1) := by decide +kernel
theorem dX7_takeClause_94 : decode cX7_takeClause 94 = .ok (.aload_n 0, 1) := by decide +kernel
theorem dX7_takeClause_95 : decode cX7_takeClause 95 = .ok (.getfield 36, 3) := by decide +kernel
theorem dX7_takeClause_98 : decode cX7_takeClause 98 = .ok (.iconst 2, 1) := by decide +kernel
theorem dX7_takeClause_99 : decode cX7_takeClause 99 = .ok (.iaload, 1) := by decide +kernel
theorem dX7_takeClause_100 : decode cX7_takeClause 100 = .ok (.bipush 8, 2) := by decide +kernel
theorem dX7_takeClause_102 : decode cX7_takeClause 102 = .ok (.if_icmp .ge 7, 3) := by decide +kernel
theorem dX7_takeClause_105 : decode cX7_takeClause 105 = .ok (.iconst 1, 1) := by decide +kernel
theorem dX7_takeClause_106 : decode cX7_takeClause 106 = .ok (.goto 4, 3) := by decide +kernel
theorem dX7_takeClause_109 : decode cX7_takeClause 109 = .ok (.iconst 0, 1) := by decide +kernel
theorem dX7_takeClause_110 : decode cX7_takeClause 110 = .ok (.iconst 3, 1) := by decide +kernel
theorem dX7_takeClause_111 : decode cX7_takeClause 111 = .ok (.iload_n 1, 1) := by decide +kernel
theorem dX7_takeClause_112 : decode cX7_takeClause 112 = .ok (.invokevirtual 112, 3) := by decide +kernel
theorem dX7_takeClause_115 : decode cX7_takeClause 115 = .ok (.ifCond .eq 145, 3) := by decide +kernel
theorem dX7_takeClause_118 : decode cX7_takeClause 118 = .ok (.aload_n 0, 1) := by decide +kernel
theorem dX7_takeClause_119 : decode cX7_takeClause 119 = .ok (.getfield 24, 3) := by decide +kernel
theorem dX7_takeClause_122 : decode cX7_takeClause 122 = .ok (.bipush 8, 2) := by decide +kernel
theorem dX7_takeClause_124 : decode cX7_takeClause 124 = .ok (.aload_n 0, 1) := by decide +kernel
theorem dX7_takeClause_125 : decode cX7_takeClause 125 = .ok (.getfield 36, 3) := by decide +kernel
theorem dX7_takeClause_128 : decode cX7_takeClause 128 = .ok (.iconst 2, 1) := by decide +kernel
theorem dX7_takeClause_129 : decode cX7_takeClause 129 = .ok (.iaload, 1) := by decide +kernel
theorem dX7_takeClause_130 : decode cX7_takeClause 130 = .ok (.iadd, 1) := by decide +kernel
theorem dX7_takeClause_131 : decode cX7_takeClause 131 = .ok (.aload_n 0, 1) := by decide +kernel
theorem dX7_takeClause_132 : decode cX7_takeClause 132 = .ok (.iconst 0, 1) := by decide +kernel
theorem dX7_takeClause_133 : decode cX7_takeClause 133 = .ok (.bipush 99, 2) := by decide +kernel
theorem dX7_takeClause_135 : decode cX7_takeClause 135 = .ok (.invokevirtual 128, 3) := by decide +kernel
theorem dX7_takeClause_138 : decode cX7_takeClause 138 = .ok (.iastore, 1) := by decide +kernel
theorem dX7_takeClause_139 : decode cX7_takeClause 139 = .ok (.aload_n 0, 1) := by decide +kernel
theorem dX7_takeClause_140 : decode cX7_takeClause 140 = .ok (.getfield 36, 3) := by decide +kernel
theorem dX7_takeClause_143 : decode cX7_takeClause 143 = .ok (.iconst 2, 1) := by decide +kernel
theorem dX7_takeClause_144 : decode cX7_takeClause 144 = .ok (.dup2, 1) := by decide +kernel
theorem dX7_takeClause_145 : decode cX7_takeClause 145 = .ok (.iaload, 1) := by decide +kernel
theorem dX7_takeClause_146 : decode cX7_takeClause 146 = .ok (.iconst 1, 1) := by decide +kernel
theorem dX7_takeClause_147 : decode cX7_takeClause 147 = .ok (.iadd, 1) := by decide +kernel
theorem dX7_takeClause_148 : decode cX7_takeClause 148 = .ok (.iastore, 1) := by decide +kernel
theorem dX7_takeClause_149 : decode cX7_takeClause 149 = .ok (.goto 111, 3) := by decide +kernel
theorem dX7_takeClause_152 : decode cX7_takeClause 152 = .ok (.aload_n 0, 1) := by decide +kernel
theorem dX7_takeClause_153 : decode cX7_takeClause 153 = .ok (.aload_n 0, 1) := by decide +kernel
theorem dX7_takeClause_154 : decode cX7_takeClause 154 = .ok (.iconst 4, 1) := by decide +kernel
theorem dX7_takeClause_155 : decode cX7_takeClause 155 = .ok (.bipush 100, 2) := by decide +kernel
theorem dX7_takeClause_157 : decode cX7_takeClause 157 = .ok (.bipush 101, 2) := by decide +kernel
end
section
theorem dX7_takeClause_159 : decode cX7_takeClause 159 = .ok (.bipush 97, 2) := by decide +kernel
theorem dX7_takeClause_161 : decode cX7_takeClause 161 = .ok (.bipush 100, 2) := by decide +kernel
theorem dX7_takeClause_163 : decode cX7_takeClause 163 = .ok (.iconst 0, 1) := by decide +kernel
theorem dX7_takeClause_164 : decode cX7_takeClause 164 = .ok (.invokevirtual 120, 3) := by decide +kernel
theorem dX7_takeClause_167 : decode cX7_takeClause 167 = .ok (.iconst 1, 1) := by decide +kernel
theorem dX7_takeClause_168 : decode cX7_takeClause 168 = .ok (.iload_n 1, 1) := by decide +kernel
theorem dX7_takeClause_169 : decode cX7_takeClause 169 = .ok (.invokevirtual 112, 3) := by decide +kernel
theorem dX7_takeClause_172 : decode cX7_takeClause 172 = .ok (.ifCond .eq 88, 3) := by decide +kernel
theorem dX7_takeClause_175 : decode cX7_takeClause 175 = .ok (.aload_n 0, 1) := by decide +kernel
theorem dX7_takeClause_176 : decode cX7_takeClause 176 = .ok (.aload_n 0, 1) := by decide +kernel
theorem dX7_takeClause_177 : decode cX7_takeClause 177 = .ok (.getfield 36, 3) := by decide +kernel
theorem dX7_takeClause_180 : decode cX7_takeClause 180 = .ok (.iconst 3, 1) := by decide +kernel
theorem dX7_takeClause_181 : decode cX7_takeClause 181 = .ok (.iaload, 1) := by decide +kernel
theorem dX7_takeClause_182 : decode cX7_takeClause 182 = .ok (.bipush 7, 2) := by decide +kernel
theorem dX7_takeClause_184 : decode cX7_takeClause 184 = .ok (.if_icmp .ge 7, 3) := by decide +kernel
theorem dX7_takeClause_187 : decode cX7_takeClause 187 = .ok (.iconst 1, 1) := by decide +kernel
theorem dX7_takeClause_188 : decode cX7_takeClause 188 = .ok (.goto 4, 3) := by decide +kernel
theorem dX7_takeClause_191 : decode cX7_takeClause 191 = .ok (.iconst 0, 1) := by decide +kernel
theorem dX7_takeClause_192 : decode cX7_takeClause 192 = .ok (.iconst 3, 1) := by decide +kernel
theorem dX7_takeClause_193 : decode cX7_takeClause 193 = .ok (.iload_n 1, 1) := by decide +kernel
theorem dX7_takeClause_194 : decode cX7_takeClause 194 = .ok (.invokevirtual 112, 3) := by decide +kernel
theorem dX7_takeClause_197 : decode cX7_takeClause 197 = .ok (.ifCond .eq 63, 3) := by decide +kernel
theorem dX7_takeClause_200 : decode cX7_takeClause 200 = .ok (.bipush 8, 2) := by decide +kernel
theorem dX7_takeClause_202 : decode cX7_takeClause 202 = .ok (.aload_n 0, 1) := by decide +kernel
theorem dX7_takeClause_203 : decode cX7_takeClause 203 = .ok (.getfield 36, 3) := by decide +kernel
theorem dX7_takeClause_206 : decode cX7_takeClause 206 = .ok (.iconst 3, 1) := by decide +kernel
theorem dX7_takeClause_207 : decode cX7_takeClause 207 = .ok (.iaload, 1) := by decide +kernel
theorem dX7_takeClause_208 : decode cX7_takeClause 208 = .ok (.iadd, 1) := by decide +kernel
theorem dX7_takeClause_209 : decode cX7_takeClause 209 = .ok (.istore_n 2, 1) := by decide +kernel
theorem dX7_takeClause_210 : decode cX7_takeClause 210 = .ok (.aload_n 0, 1) := by decide +kernel
theorem dX7_takeClause_211 : decode cX7_takeClause 211 = .ok (.getfield 27, 3) := by decide +kernel
theorem dX7_takeClause_214 : decode cX7_takeClause 214 = .ok (.iload_n 2, 1) := by decide +kernel
theorem dX7_takeClause_215 : decode cX7_takeClause 215 = .ok (.aload_n 0, 1) := by decide +kernel
theorem dX7_takeClause_216 : decode cX7_takeClause 216 = .ok (.iconst 0, 1) := by decide +kernel
theorem dX7_takeClause_217 : decode cX7_takeClause 217 = .ok (.bipush 99, 2) := by decide +kernel
theorem dX7_takeClause_219 : decode cX7_takeClause 219 = .ok (.invokevirtual 128, 3) := by decide +kernel
theorem dX7_takeClause_222 : decode cX7_takeClause 222 = .ok (.iastore, 1) := by decide +kernel
theorem dX7_takeClause_223 : decode cX7_takeClause 223 = .ok (.aload_n 0, 1) := by decide +kernel
theorem dX7_takeClause_224 : decode cX7_takeClause 224 = .ok (.getfield 30, 3) := by decide +kernel
theorem dX7_takeClause_227 : decode cX7_takeClause 227 = .ok (.iload_n 2, 1) := by decide +kernel
theorem dX7_takeClause_228 : decode cX7_takeClause 228 = .ok (.aload_n 0, 1) := by decide +kernel
theorem dX7_takeClause_229 : decode cX7_takeClause 229 = .ok (.iconst 0, 1) := by decide +kernel
theorem dX7_takeClause_230 : decode cX7_takeClause 230 = .ok (.sipush 999, 3) := by decide +kernel
theorem dX7_takeClause_233 : decode cX7_takeClause 233 = .ok (.invokevirtual 128, 3) := by decide +kernel
theorem dX7_takeClause_236 : decode cX7_takeClause 236 = .ok (.iastore, 1) := by decide +kernel
theorem dX7_takeClause_237 : decode cX7_takeClause 237 = .ok (.aload_n 0, 1) := by decide +kernel
theorem dX7_takeClause_238 : decode cX7_takeClause 238 = .ok (.getfield 33, 3) := by decide +kernel
theorem dX7_takeClause_241 : decode cX7_takeClause 241 = .ok (.iload_n 2, 1) := by decide +kernel
theorem dX7_takeClause_242 : decode cX7_takeClause 242 = .ok (.aload_n 0, 1) := by decide +kernel
theorem dX7_takeClause_243 : decode cX7_takeClause 243 = .ok (.iconst 0, 1) := by decide +kernel
theorem dX7_takeClause_244 : decode cX7_takeClause 244 = .ok (.bipush 9, 2) := by decide +kernel
theorem dX7_takeClause_246 : decode cX7_takeClause 246 = .ok (.invokevirtual 128, 3) := by decide +kernel
theorem dX7_takeClause_249 : decode cX7_takeClause 249 = .ok (.iastore, 1) := by decide +kernel
theorem dX7_takeClause_250 : decode cX7_takeClause 250 = .ok (.aload_n 0, 1) := by decide +kernel
theorem dX7_takeClause_251 : decode cX7_takeClause 251 = .ok (.getfield 36, 3) := by decide +kernel
theorem dX7_takeClause_254 : decode cX7_takeClause 254 = .ok (.iconst 3, 1) := by decide +kernel
theorem dX7_takeClause_255 : decode cX7_takeClause 255 = .ok (.dup2, 1) := by decide +kernel
theorem dX7_takeClause_256 : decode cX7_takeClause 256 = .ok (.iaload, 1) := by decide +kernel
theorem dX7_takeClause_257 : decode cX7_takeClause 257 = .ok (.iconst 1, 1) := by decide +kernel
theorem dX7_takeClause_258 : decode cX7_takeClause 258 = .ok (.iadd, 1) := by decide +kernel
theorem dX7_takeClause_259 : decode cX7_takeClause 259 = .ok (.iastore, 1) := by decide +kernel
theorem dX7_takeClause_260 : decode cX7_takeClause 260 = .ok (.aload_n 0, 1) := by decide +kernel
theorem dX7_takeClause_261 : decode cX7_takeClause 261 = .ok (.invokevirtual 138, 3) := by decide +kernel
theorem dX7_takeClause_264 : decode cX7_takeClause 264 = .ok (.return_, 1) := by decide +kernel
theorem dX7_start_0 : decode cX7_start 0 = .ok (.aload_n 0, 1) := by decide +kernel
theorem dX7_start_1 : decode cX7_start 1 = .ok (.iconst 0, 1) := by decide +kernel
theorem dX7_start_2 : decode cX7_start 2 = .ok (.putfield 88, 3) := by decide +kernel
theorem dX7_start_5 : decode cX7_start 5 = .ok (.aload_n 0, 1) := by decide +kernel
theorem dX7_start_6 : decode cX7_start 6 = .ok (.iconst 0, 1) := by decide +kernel
theorem dX7_start_7 : decode cX7_start 7 = .ok (.putfield 91, 3) := by decide +kernel
theorem dX7_start_10 : decode cX7_start 10 = .ok (.aload_n 0, 1) := by decide +kernel
theorem dX7_start_11 : decode cX7_start 11 = .ok (.iconst (-1), 1) := by decide +kernel
theorem dX7_start_12 : decode cX7_start 12 = .ok (.putfield 45, 3) := by decide +kernel
theorem dX7_start_15 : decode cX7_start 15 = .ok (.return_, 1) := by decide +kernel
theorem dX7_parish_0 : decode cX7_parish 0 = .ok (.aload_n 0, 1) := by decide +kernel
theorem dX7_parish_1 : decode cX7_parish 1 = .ok (.invokevirtual 141, 3) := by decide +kernel
theorem dX7_parish_4 : decode cX7_parish 4 = .ok (.aload_n 0, 1) := by decide +kernel
theorem dX7_parish_5 : decode cX7_parish 5 = .ok (.getfield 36, 3) := by decide +kernel
theorem dX7_parish_8 : decode cX7_parish 8 = .ok (.iconst 2, 1) := by decide +kernel
theorem dX7_parish_9 : decode cX7_parish 9 = .ok (.iconst 0, 1) := by decide +kernel
theorem dX7_parish_10 : decode cX7_parish 10 = .ok (.iastore, 1) := by decide +kernel
theorem dX7_parish_11 : decode cX7_parish 11 = .ok (.aload_n 0, 1) := by decide +kernel
theorem dX7_parish_12 : decode cX7_parish 12 = .ok (.getfield 36, 3) := by decide +kernel
theorem dX7_parish_15 : decode cX7_parish 15 = .ok (.iconst 3, 1) := by decide +kernel
theorem dX7_parish_16 : decode cX7_parish 16 = .ok (.iconst 0, 1) := by decide +kernel
theorem dX7_parish_17 : decode cX7_parish 17 = .ok (.iastore, 1) := by decide +kernel
theorem dX7_parish_18 : decode cX7_parish 18 = .ok (.aload_n 0, 1) := by decide +kernel
theorem dX7_parish_19 : decode cX7_parish 19 = .ok (.iconst 0, 1) := by decide +kernel
theorem dX7_parish_20 : decode cX7_parish 20 = .ok (.putfield 124, 3) := by decide +kernel
theorem dX7_parish_23 : decode cX7_parish 23 = .ok (.aload_n 0, 1) := by decide +kernel
theorem dX7_parish_24 : decode cX7_parish 24 = .ok (.bipush 6, 2) := by decide +kernel
theorem dX7_parish_26 : decode cX7_parish 26 = .ok (.putfield 132, 3) := by decide +kernel
theorem dX7_parish_29 : decode cX7_parish 29 = .ok (.aload_n 0, 1) := by decide +kernel
theorem dX7_parish_30 : decode cX7_parish 30 = .ok (.iconst 2, 1) := by decide +kernel
theorem dX7_parish_31 : decode cX7_parish 31 = .ok (.putfield 135, 3) := by decide +kernel
theorem dX7_parish_34 : decode cX7_parish 34 = .ok (.aload_n 0, 1) := by decide +kernel
theorem dX7_parish_35 : decode cX7_parish 35 = .ok (.getfield 91, 3) := by decide +kernel
theorem dX7_parish_38 : decode cX7_parish 38 = .ok (.ifCond .ne 17, 3) := by decide +kernel
theorem dX7_parish_41 : decode cX7_parish 41 = .ok (.aload_n 0, 1) := by decide +kernel
theorem dX7_parish_42 : decode cX7_parish 42 = .ok (.invokevirtual 94, 3) := by decide +kernel
theorem dX7_parish_45 : decode cX7_parish 45 = .ok (.ifCond .lt 10, 3) := by decide +kernel
theorem dX7_parish_48 : decode cX7_parish 48 = .ok (.aload_n 0, 1) := by decide +kernel
theorem dX7_parish_49 : decode cX7_parish 49 = .ok (.invokevirtual 144, 3) := by decide +kernel
theorem dX7_parish_52 : decode cX7_parish 52 = .ok (.goto (-18), 3) := by decide +kernel
theorem dX7_parish_55 : decode cX7_parish 55 = .ok (.aload_n 0, 1) := by decide +kernel
theorem dX7_parish_56 : decode cX7_parish 56 = .ok (.iconst 0, 1) := by decide +kernel
theorem dX7_parish_57 : decode cX7_parish 57 = .ok (.putfield 82, 3) := by decide +kernel
theorem dX7_parish_60 : decode cX7_parish 60 = .ok (.aload_n 0, 1) := by decide +kernel
theorem dX7_parish_61 : decode cX7_parish 61 = .ok (.getfield 91, 3) := by decide +kernel
theorem dX7_parish_64 : decode cX7_parish 64 = .ok (.ifCond .le 11, 3) := by decide +kernel
theorem dX7_parish_67 : decode cX7_parish 67 = .ok (.bipush (-10), 2) := by decide +kernel
theorem dX7_parish_69 : decode cX7_parish 69 = .ok (.aload_n 0, 1) := by decide +kernel
theorem dX7_parish_70 : decode cX7_parish 70 = .ok (.getfield 91, 3) := by decide +kernel
theorem dX7_parish_73 : decode cX7_parish 73 = .ok (.isub, 1) := by decide +kernel
theorem dX7_parish_74 : decode cX7_parish 74 = .ok (.ireturn, 1) := by decide +kernel
theorem dX7_parish_75 : decode cX7_parish 75 = .ok (.aload_n 0, 1) := by decide +kernel
theorem dX7_parish_76 : decode cX7_parish 76 = .ok (.getfield 36, 3) := by decide +kernel
theorem dX7_parish_79 : decode cX7_parish 79 = .ok (.iconst 0, 1) := by decide +kernel
theorem dX7_parish_80 : decode cX7_parish 80 = .ok (.aload_n 0, 1) := by decide +kernel
theorem dX7_parish_81 : decode cX7_parish 81 = .ok (.getfield 36, 3) := by decide +kernel
theorem dX7_parish_84 : decode cX7_parish 84 = .ok (.iconst 2, 1) := by decide +kernel
theorem dX7_parish_85 : decode cX7_parish 85 = .ok (.iaload, 1) := by decide +kernel
theorem dX7_parish_86 : decode cX7_parish 86 = .ok (.iastore, 1) := by decide +kernel
theorem dX7_parish_87 : decode cX7_parish 87 = .ok (.aload_n 0, 1) := by decide +kernel
theorem dX7_parish_88 : decode cX7_parish 88 = .ok (.getfield 36, 3) := by decide +kernel
theorem dX7_parish_91 : decode cX7_parish 91 = .ok (.iconst 1, 1) := by decide +kernel
theorem dX7_parish_92 : decode cX7_parish 92 = .ok (.aload_n 0, 1) := by decide +kernel
theorem dX7_parish_93 : decode cX7_parish 93 = .ok (.getfield 36, 3) := by decide +kernel
theorem dX7_parish_96 : decode cX7_parish 96 = .ok (.iconst 3, 1) := by decide +kernel
theorem dX7_parish_97 : decode cX7_parish 97 = .ok (.iaload, 1) := by decide +kernel
theorem dX7_parish_98 : decode cX7_parish 98 = .ok (.iastore, 1) := by decide +kernel
theorem dX7_parish_99 : decode cX7_parish 99 = .ok (.aload_n 0, 1) := by decide +kernel
theorem dX7_parish_100 : decode cX7_parish 100 = .ok (.aload_n 0, 1) := by decide +kernel
theorem dX7_parish_101 : decode cX7_parish 101 = .ok (.getfield 132, 3) := by decide +kernel
theorem dX7_parish_104 : decode cX7_parish 104 = .ok (.putfield 17, 3) := by decide +kernel
theorem dX7_parish_107 : decode cX7_parish 107 = .ok (.aload_n 0, 1) := by decide +kernel
theorem dX7_parish_108 : decode cX7_parish 108 = .ok (.aload_n 0, 1) := by decide +kernel
theorem dX7_parish_109 : decode cX7_parish 109 = .ok (.getfield 135, 3) := by decide +kernel
theorem dX7_parish_112 : decode cX7_parish 112 = .ok (.putfield 21, 3) := by decide +kernel
theorem dX7_parish_115 : decode cX7_parish 115 = .ok (.iconst 0, 1) := by decide +kernel
theorem dX7_parish_116 : decode cX7_parish 116 = .ok (.istore_n 1, 1) := by decide +kernel
theorem dX7_parish_117 : decode cX7_parish 117 = .ok (.iload_n 1, 1) := by decide +kernel
theorem dX7_parish_118 : decode cX7_parish 118 = .ok (.bipush 8, 2) := by decide +kernel
theorem dX7_parish_120 : decode cX7_parish 120 = .ok (.if_icmp .ge 181, 3) := by decide +kernel
theorem dX7_parish_123 : decode cX7_parish 123 = .ok (.aload_n 0, 1) := by decide +kernel
theorem dX7_parish_124 : decode cX7_parish 124 = .ok (.getfield 24, 3) := by decide +kernel
theorem dX7_parish_127 : decode cX7_parish 127 = .ok (.iload_n 1, 1) := by decide +kernel
theorem dX7_parish_128 : decode cX7_parish 128 = .ok (.aload_n 0, 1) := by decide +kernel
theorem dX7_parish_129 : decode cX7_parish 129 = .ok (.getfield 24, 3) := by decide +kernel
theorem dX7_parish_132 : decode cX7_parish 132 = .ok (.bipush 8, 2) := by decide +kernel
theorem dX7_parish_134 : decode cX7_parish 134 = .ok (.iload_n 1, 1) := by decide +kernel
theorem dX7_parish_135 : decode cX7_parish 135 = .ok (.iadd, 1) := by decide +kernel
theorem dX7_parish_136 : decode cX7_parish 136 = .ok (.iaload, 1) := by decide +kernel
theorem dX7_parish_137 : decode cX7_parish 137 = .ok (.iastore, 1) := by decide +kernel
theorem dX7_parish_138 : decode cX7_parish 138 = .ok (.aload_n 0, 1) := by decide +kernel
theorem dX7_parish_139 : decode cX7_parish 139 = .ok (.getfield 27, 3) := by decide +kernel
theorem dX7_parish_142 : decode cX7_parish 142 = .ok (.iload_n 1, 1) := by decide +kernel
theorem dX7_parish_143 : decode cX7_parish 143 = .ok (.aload_n 0, 1) := by decide +kernel
theorem dX7_parish_144 : decode cX7_parish 144 = .ok (.getfield 27, 3) := by decide +kernel
theorem dX7_parish_147 : decode cX7_parish 147 = .ok (.bipush 8, 2) := by decide +kernel
theorem dX7_parish_149 : decode cX7_parish 149 = .ok (.iload_n 1, 1) := by decide +kernel
theorem dX7_parish_150 : decode cX7_parish 150 = .ok (.iadd, 1) := by decide +kernel
theorem dX7_parish_151 : decode cX7_parish 151 = .ok (.iaload, 1) := by decide +kernel
theorem dX7_parish_152 : decode cX7_parish 152 = .ok (.iastore, 1) := by decide +kernel
theorem dX7_parish_153 : decode cX7_parish 153 = .ok (.aload_n 0, 1) := by decide +kernel
theorem dX7_parish_154 : decode cX7_parish 154 = .ok (.getfield 30, 3) := by decide +kernel
theorem dX7_parish_157 : decode cX7_parish 157 = .ok (.iload_n 1, 1) := by decide +kernel
theorem dX7_parish_158 : decode cX7_parish 158 = .ok (.aload_n 0, 1) := by decide +kernel
theorem dX7_parish_159 : decode cX7_parish 159 = .ok (.getfield 30, 3) := by decide +kernel
theorem dX7_parish_162 : decode cX7_parish 162 = .ok (.bipush 8, 2) := by decide +kernel
theorem dX7_parish_164 : decode cX7_parish 164 = .ok (.iload_n 1, 1) := by decide +kernel
theorem dX7_parish_165 : decode cX7_parish 165 = .ok (.iadd, 1) := by decide +kernel
theorem dX7_parish_166 : decode cX7_parish 166 = .ok (.iaload, 1) := by decide +kernel
theorem dX7_parish_167 : decode cX7_parish 167 = .ok (.iastore, 1) := by decide +kernel
theorem dX7_parish_168 : decode cX7_parish 168 = .ok (.aload_n 0, 1) := by decide +kernel
theorem dX7_parish_169 : decode cX7_parish 169 = .ok (.getfield 33, 3) := by decide +kernel
theorem dX7_parish_172 : decode cX7_parish 172 = .ok (.iload_n 1, 1) := by decide +kernel
theorem dX7_parish_173 : decode cX7_parish 173 = .ok (.aload_n 0, 1) := by decide +kernel
theorem dX7_parish_174 : decode cX7_parish 174 = .ok (.getfield 33, 3) := by decide +kernel
theorem dX7_parish_177 : decode cX7_parish 177 = .ok (.bipush 8, 2) := by decide +kernel
theorem dX7_parish_179 : decode cX7_parish 179 = .ok (.iload_n 1, 1) := by decide +kernel
theorem dX7_parish_180 : decode cX7_parish 180 = .ok (.iadd, 1) := by decide +kernel
theorem dX7_parish_181 : decode cX7_parish 181 = .ok (.iaload, 1) := by decide +kernel
theorem dX7_parish_182 : decode cX7_parish 182 = .ok (.iastore, 1) := by decide +kernel
theorem dX7_parish_183 : decode cX7_parish 183 = .ok (.aload_n 0, 1) := by decide +kernel
theorem dX7_parish_184 : decode cX7_parish 184 = .ok (.getfield 7, 3) := by decide +kernel
theorem dX7_parish_187 : decode cX7_parish 187 = .ok (.iload_n 1, 1) := by decide +kernel
theorem dX7_parish_188 : decode cX7_parish 188 = .ok (.aload_n 0, 1) := by decide +kernel
theorem dX7_parish_189 : decode cX7_parish 189 = .ok (.getfield 24, 3) := by decide +kernel
theorem dX7_parish_192 : decode cX7_parish 192 = .ok (.iload_n 1, 1) := by decide +kernel
theorem dX7_parish_193 : decode cX7_parish 193 = .ok (.iaload, 1) := by decide +kernel
theorem dX7_parish_194 : decode cX7_parish 194 = .ok (.iastore, 1) := by decide +kernel
theorem dX7_parish_195 : decode cX7_parish 195 = .ok (.aload_n 0, 1) := by decide +kernel
theorem dX7_parish_196 : decode cX7_parish 196 = .ok (.getfield 7, 3) := by decide +kernel
theorem dX7_parish_199 : decode cX7_parish 199 = .ok (.bipush 8, 2) := by decide +kernel
theorem dX7_parish_201 : decode cX7_parish 201 = .ok (.iload_n 1, 1) := by decide +kernel
theorem dX7_parish_202 : decode cX7_parish 202 = .ok (.iadd, 1) := by decide +kernel
theorem dX7_parish_203 : decode cX7_parish 203 = .ok (.aload_n 0, 1) := by decide +kernel
theorem dX7_parish_204 : decode cX7_parish 204 = .ok (.getfield 27, 3) := by decide +kernel
theorem dX7_parish_207 : decode cX7_parish 207 = .ok (.iload_n 1, 1) := by decide +kernel
theorem dX7_parish_208 : decode cX7_parish 208 = .ok (.iaload, 1) := by decide +kernel
theorem dX7_parish_209 : decode cX7_parish 209 = .ok (.iastore, 1) := by decide +kernel
theorem dX7_parish_210 : decode cX7_parish 210 = .ok (.aload_n 0, 1) := by decide +kernel
theorem dX7_parish_211 : decode cX7_parish 211 = .ok (.getfield 7, 3) := by decide +kernel
theorem dX7_parish_214 : decode cX7_parish 214 = .ok (.bipush 16, 2) := by decide +kernel
theorem dX7_parish_216 : decode cX7_parish 216 = .ok (.iload_n 1, 1) := by decide +kernel
theorem dX7_parish_217 : decode cX7_parish 217 = .ok (.iadd, 1) := by decide +kernel
theorem dX7_parish_218 : decode cX7_parish 218 = .ok (.aload_n 0, 1) := by decide +kernel
theorem dX7_parish_219 : decode cX7_parish 219 = .ok (.getfield 30, 3) := by decide +kernel
theorem dX7_parish_222 : decode cX7_parish 222 = .ok (.iload_n 1, 1) := by decide +kernel
theorem dX7_parish_223 : decode cX7_parish 223 = .ok (.iaload, 1) := by decide +kernel
theorem dX7_parish_224 : decode cX7_parish 224 = .ok (.iastore, 1) := by decide +kernel
theorem dX7_parish_225 : decode cX7_parish 225 = .ok (.aload_n 0, 1) := by decide +kernel
theorem dX7_parish_226 : decode cX7_parish 226 = .ok (.getfield 7, 3) := by decide +kernel
theorem dX7_parish_229 : decode cX7_parish 229 = .ok (.bipush 24, 2) := by decide +kernel
theorem dX7_parish_231 : decode cX7_parish 231 = .ok (.iload_n 1, 1) := by decide +kernel
theorem dX7_parish_232 : decode cX7_parish 232 = .ok (.iadd, 1) := by decide +kernel
theorem dX7_parish_233 : decode cX7_parish 233 = .ok (.iconst 0, 1) := by decide +kernel
theorem dX7_parish_234 : decode cX7_parish 234 = .ok (.iastore, 1) := by decide +kernel
theorem dX7_parish_235 : decode cX7_parish 235 = .ok (.aload_n 0, 1) := by decide +kernel
theorem dX7_parish_236 : decode cX7_parish 236 = .ok (.getfield 7, 3) := by decide +kernel
theorem dX7_parish_239 : decode cX7_parish 239 = .ok (.bipush 32, 2) := by decide +kernel
theorem dX7_parish_241 : decode cX7_parish 241 = .ok (.iload_n 1, 1) := by decide +kernel
theorem dX7_parish_242 : decode cX7_parish 242 = .ok (.iadd, 1) := by decide +kernel
theorem dX7_parish_243 : decode cX7_parish 243 = .ok (.bipush 9, 2) := by decide +kernel
theorem dX7_parish_245 : decode cX7_parish 245 = .ok (.iastore, 1) := by decide +kernel
theorem dX7_parish_246 : decode cX7_parish 246 = .ok (.aload_n 0, 1) := by decide +kernel
theorem dX7_parish_247 : decode cX7_parish 247 = .ok (.getfield 7, 3) := by decide +kernel
theorem dX7_parish_250 : decode cX7_parish 250 = .ok (.bipush 40, 2) := by decide +kernel
theorem dX7_parish_252 : decode cX7_parish 252 = .ok (.iload_n 1, 1) := by decide +kernel
theorem dX7_parish_253 : decode cX7_parish 253 = .ok (.iadd, 1) := by decide +kernel
theorem dX7_parish_254 : decode cX7_parish 254 = .ok (.iconst (-1), 1) := by decide +kernel
theorem dX7_parish_255 : decode cX7_parish 255 = .ok (.iastore, 1) := by decide +kernel
theorem dX7_parish_256 : decode cX7_parish 256 = .ok (.aload_n 0, 1) := by decide +kernel
theorem dX7_parish_257 : decode cX7_parish 257 = .ok (.getfield 7, 3) := by decide +kernel
theorem dX7_parish_260 : decode cX7_parish 260 = .ok (.bipush 48, 2) := by decide +kernel
theorem dX7_parish_262 : decode cX7_parish 262 = .ok (.iload_n 1, 1) := by decide +kernel
theorem dX7_parish_263 : decode cX7_parish 263 = .ok (.iadd, 1) := by decide +kernel
theorem dX7_parish_264 : decode cX7_parish 264 = .ok (.iconst 0, 1) := by decide +kernel
theorem dX7_parish_265 : decode cX7_parish 265 = .ok (.iastore, 1) := by decide +kernel
theorem dX7_parish_266 : decode cX7_parish 266 = .ok (.aload_n 0, 1) := by decide +kernel
theorem dX7_parish_267 : decode cX7_parish 267 = .ok (.getfield 7, 3) := by decide +kernel
theorem dX7_parish_270 : decode cX7_parish 270 = .ok (.bipush 56, 2) := by decide +kernel
theorem dX7_parish_272 : decode cX7_parish 272 = .ok (.iload_n 1, 1) := by decide +kernel
theorem dX7_parish_273 : decode cX7_parish 273 = .ok (.iadd, 1) := by decide +kernel
theorem dX7_parish_274 : decode cX7_parish 274 = .ok (.iload_n 1, 1) := by decide +kernel
theorem dX7_parish_275 : decode cX7_parish 275 = .ok (.iastore, 1) := by decide +kernel
theorem dX7_parish_276 : decode cX7_parish 276 = .ok (.aload_n 0, 1) := by decide +kernel
theorem dX7_parish_277 : decode cX7_parish 277 = .ok (.getfield 7, 3) := by decide +kernel
theorem dX7_parish_280 : decode cX7_parish 280 = .ok (.bipush 64, 2) := by decide +kernel
theorem dX7_parish_282 : decode cX7_parish 282 = .ok (.iload_n 1, 1) := by decide +kernel
theorem dX7_parish_283 : decode cX7_parish 283 = .ok (.iadd, 1) := by decide +kernel
theorem dX7_parish_284 : decode cX7_parish 284 = .ok (.iconst 1, 1) := by decide +kernel
theorem dX7_parish_285 : decode cX7_parish 285 = .ok (.aload_n 0, 1) := by decide +kernel
theorem dX7_parish_286 : decode cX7_parish 286 = .ok (.getfield 36, 3) := by decide +kernel
theorem dX7_parish_289 : decode cX7_parish 289 = .ok (.iconst 1, 1) := by decide +kernel
theorem dX7_parish_290 : decode cX7_parish 290 = .ok (.iaload, 1) := by decide +kernel
theorem dX7_parish_291 : decode cX7_parish 291 = .ok (.ishl, 1) := by decide +kernel
theorem dX7_parish_292 : decode cX7_parish 292 = .ok (.iconst 1, 1) := by decide +kernel
theorem dX7_parish_293 : decode cX7_parish 293 = .ok (.isub, 1) := by decide +kernel
theorem dX7_parish_294 : decode cX7_parish 294 = .ok (.iastore, 1) := by decide +kernel
theorem dX7_parish_295 : decode cX7_parish 295 = .ok (.iinc 1 1, 3) := by decide +kernel
theorem dX7_parish_298 : decode cX7_parish 298 = .ok (.goto (-181), 3) := by decide +kernel
theorem dX7_parish_301 : decode cX7_parish 301 = .ok (.aload_n 0, 1) := by decide +kernel
theorem dX7_parish_302 : decode cX7_parish 302 = .ok (.getfield 7, 3) := by decide +kernel
theorem dX7_parish_305 : decode cX7_parish 305 = .ok (.bipush 72, 2) := by decide +kernel
theorem dX7_parish_307 : decode cX7_parish 307 = .ok (.iconst 0, 1) := by decide +kernel
theorem dX7_parish_308 : decode cX7_parish 308 = .ok (.iastore, 1) := by decide +kernel
theorem dX7_parish_309 : decode cX7_parish 309 = .ok (.aload_n 0, 1) := by decide +kernel
theorem dX7_parish_310 : decode cX7_parish 310 = .ok (.iconst 0, 1) := by decide +kernel
theorem dX7_parish_311 : decode cX7_parish 311 = .ok (.putfield 147, 3) := by decide +kernel
theorem dX7_parish_314 : decode cX7_parish 314 = .ok (.aload_n 0, 1) := by decide +kernel
theorem dX7_parish_315 : decode cX7_parish 315 = .ok (.getfield 13, 3) := by decide +kernel
theorem dX7_parish_318 : decode cX7_parish 318 = .ok (.iconst 0, 1) := by decide +kernel
theorem dX7_parish_319 : decode cX7_parish 319 = .ok (.iconst 0, 1) := by decide +kernel
theorem dX7_parish_320 : decode cX7_parish 320 = .ok (.bastore, 1) := by decide +kernel
theorem dX7_parish_321 : decode cX7_parish 321 = .ok (.aload_n 0, 1) := by decide +kernel
theorem dX7_parish_322 : decode cX7_parish 322 = .ok (.getfield 13, 3) := by decide +kernel
theorem dX7_parish_325 : decode cX7_parish 325 = .ok (.iconst 1, 1) := by decide +kernel
theorem dX7_parish_326 : decode cX7_parish 326 = .ok (.iconst 0, 1) := by decide +kernel
theorem dX7_parish_327 : decode cX7_parish 327 = .ok (.bastore, 1) := by decide +kernel
theorem dX7_parish_328 : decode cX7_parish 328 = .ok (.aload_n 0, 1) := by decide +kernel
theorem dX7_parish_329 : decode cX7_parish 329 = .ok (.getfield 36, 3) := by decide +kernel
theorem dX7_parish_332 : decode cX7_parish 332 = .ok (.iconst 1, 1) := by decide +kernel
theorem dX7_parish_333 : decode cX7_parish 333 = .ok (.iaload, 1) := by decide +kernel
theorem dX7_parish_334 : decode cX7_parish 334 = .ok (.ireturn, 1) := by decide +kernel
theorem dX7_custom_0 : decode cX7_custom 0 = .ok (.aload_n 0, 1) := by decide +kernel
theorem dX7_custom_1 : decode cX7_custom 1 = .ok (.invokevirtual 141, 3) := by decide +kernel
theorem dX7_custom_4 : decode cX7_custom 4 = .ok (.iconst 0, 1) := by decide +kernel
theorem dX7_custom_5 : decode cX7_custom 5 = .ok (.istore_n 1, 1) := by decide +kernel
theorem dX7_custom_6 : decode cX7_custom 6 = .ok (.iconst 0, 1) := by decide +kernel
theorem dX7_custom_7 : decode cX7_custom 7 = .ok (.istore_n 2, 1) := by decide +kernel
theorem dX7_custom_8 : decode cX7_custom 8 = .ok (.aload_n 0, 1) := by decide +kernel
theorem dX7_custom_9 : decode cX7_custom 9 = .ok (.getfield 91, 3) := by decide +kernel
theorem dX7_custom_12 : decode cX7_custom 12 = .ok (.ifCond .ne 170, 3) := by decide +kernel
theorem dX7_custom_15 : decode cX7_custom 15 = .ok (.aload_n 0, 1) := by decide +kernel
theorem dX7_custom_16 : decode cX7_custom 16 = .ok (.invokevirtual 94, 3) := by decide +kernel
theorem dX7_custom_19 : decode cX7_custom 19 = .ok (.ifCond .lt 163, 3) := by decide +kernel
theorem dX7_custom_22 : decode cX7_custom 22 = .ok (.aload_n 0, 1) := by decide +kernel
theorem dX7_custom_23 : decode cX7_custom 23 = .ok (.invokevirtual 117, 3) := by decide +kernel
theorem dX7_custom_26 : decode cX7_custom 26 = .ok (.aload_n 0, 1) := by decide +kernel
theorem dX7_custom_27 : decode cX7_custom 27 = .ok (.iconst 4, 1) := by decide +kernel
theorem dX7_custom_28 : decode cX7_custom 28 = .ok (.bipush 114, 2) := by decide +kernel
theorem dX7_custom_30 : decode cX7_custom 30 = .ok (.bipush 97, 2) := by decide +kernel
theorem dX7_custom_32 : decode cX7_custom 32 = .ok (.bipush 110, 2) := by decide +kernel
theorem dX7_custom_34 : decode cX7_custom 34 = .ok (.bipush 107, 2) := by decide +kernel
theorem dX7_custom_36 : decode cX7_custom 36 = .ok (.iconst 0, 1) := by decide +kernel
theorem dX7_custom_37 : decode cX7_custom 37 = .ok (.invokevirtual 120, 3) := by decide +kernel
theorem dX7_custom_40 : decode cX7_custom 40 = .ok (.ifCond .eq 7, 3) := by decide +kernel
theorem dX7_custom_43 : decode cX7_custom 43 = .ok (.iconst 0, 1) := by decide +kernel
theorem dX7_custom_44 : decode cX7_custom 44 = .ok (.goto 68, 3) := by decide +kernel
theorem dX7_custom_47 : decode cX7_custom 47 = .ok (.aload_n 0, 1) := by decide +kernel
theorem dX7_custom_48 : decode cX7_custom 48 = .ok (.iconst 5, 1) := by decide +kernel
theorem dX7_custom_49 : decode cX7_custom 49 = .ok (.bipush 119, 2) := by decide +kernel
theorem dX7_custom_51 : decode cX7_custom 51 = .ok (.bipush 97, 2) := by decide +kernel
theorem dX7_custom_53 : decode cX7_custom 53 = .ok (.bipush 105, 2) := by decide +kernel
theorem dX7_custom_55 : decode cX7_custom 55 = .ok (.bipush 116, 2) := by decide +kernel
theorem dX7_custom_57 : decode cX7_custom 57 = .ok (.bipush 115, 2) := by decide +kernel
theorem dX7_custom_59 : decode cX7_custom 59 = .ok (.invokevirtual 120, 3) := by decide +kernel
theorem dX7_custom_62 : decode cX7_custom 62 = .ok (.ifCond .eq 7, 3) := by decide +kernel
theorem dX7_custom_65 : decode cX7_custom 65 = .ok (.iconst 1, 1) := by decide +kernel
theorem dX7_custom_66 : decode cX7_custom 66 = .ok (.goto 46, 3) := by decide +kernel
theorem dX7_custom_69 : decode cX7_custom 69 = .ok (.aload_n 0, 1) := by decide +kernel
theorem dX7_custom_70 : decode cX7_custom 70 = .ok (.iconst 5, 1) := by decide +kernel
theorem dX7_custom_71 : decode cX7_custom 71 = .ok (.bipush 103, 2) := by decide +kernel
theorem dX7_custom_73 : decode cX7_custom 73 = .ok (.bipush 105, 2) := by decide +kernel
theorem dX7_custom_75 : decode cX7_custom 75 = .ok (.bipush 102, 2) := by decide +kernel
theorem dX7_custom_77 : decode cX7_custom 77 = .ok (.bipush 116, 2) := by decide +kernel
theorem dX7_custom_79 : decode cX7_custom 79 = .ok (.bipush 115, 2) := by decide +kernel
theorem dX7_custom_81 : decode cX7_custom 81 = .ok (.invokevirtual 120, 3) := by decide +kernel
theorem dX7_custom_84 : decode cX7_custom 84 = .ok (.ifCond .eq 7, 3) := by decide +kernel
theorem dX7_custom_87 : decode cX7_custom 87 = .ok (.iconst 2, 1) := by decide +kernel
theorem dX7_custom_88 : decode cX7_custom 88 = .ok (.goto 24, 3) := by decide +kernel
theorem dX7_custom_91 : decode cX7_custom 91 = .ok (.aload_n 0, 1) := by decide +kernel
theorem dX7_custom_92 : decode cX7_custom 92 = .ok (.iconst 3, 1) := by decide +kernel
theorem dX7_custom_93 : decode cX7_custom 93 = .ok (.bipush 107, 2) := by decide +kernel
theorem dX7_custom_95 : decode cX7_custom 95 = .ok (.bipush 105, 2) := by decide +kernel
theorem dX7_custom_97 : decode cX7_custom 97 = .ok (.bipush 110, 2) := by decide +kernel
theorem dX7_custom_99 : decode cX7_custom 99 = .ok (.iconst 0, 1) := by decide +kernel
theorem dX7_custom_100 : decode cX7_custom 100 = .ok (.iconst 0, 1) := by decide +kernel
theorem dX7_custom_101 : decode cX7_custom 101 = .ok (.invokevirtual 120, 3) := by decide +kernel
theorem dX7_custom_104 : decode cX7_custom 104 = .ok (.ifCond .eq 7, 3) := by decide +kernel
theorem dX7_custom_107 : decode cX7_custom 107 = .ok (.iconst 3, 1) := by decide +kernel
theorem dX7_custom_108 : decode cX7_custom 108 = .ok (.goto 4, 3) := by decide +kernel
theorem dX7_custom_111 : decode cX7_custom 111 = .ok (.iconst (-1), 1) := by decide +kernel
theorem dX7_custom_112 : decode cX7_custom 112 = .ok (.istore_n 3, 1) := by decide +kernel
theorem dX7_custom_113 : decode cX7_custom 113 = .ok (.aload_n 0, 1) := by decide +kernel
theorem dX7_custom_114 : decode cX7_custom 114 = .ok (.iload_n 3, 1) := by decide +kernel
theorem dX7_custom_115 : decode cX7_custom 115 = .ok (.ifCond .lt 7, 3) := by decide +kernel
theorem dX7_custom_118 : decode cX7_custom 118 = .ok (.iconst 1, 1) := by decide +kernel
theorem dX7_custom_119 : decode cX7_custom 119 = .ok (.goto 4, 3) := by decide +kernel
theorem dX7_custom_122 : decode cX7_custom 122 = .ok (.iconst 0, 1) := by decide +kernel
theorem dX7_custom_123 : decode cX7_custom 123 = .ok (.iconst 1, 1) := by decide +kernel
theorem dX7_custom_124 : decode cX7_custom 124 = .ok (.aload_n 0, 1) := by decide +kernel
theorem dX7_custom_125 : decode cX7_custom 125 = .ok (.getfield 98, 3) := by decide +kernel
theorem dX7_custom_128 : decode cX7_custom 128 = .ok (.invokevirtual 112, 3) := by decide +kernel
theorem dX7_custom_131 : decode cX7_custom 131 = .ok (.ifCond .eq 44, 3) := by decide +kernel
theorem dX7_custom_134 : decode cX7_custom 134 = .ok (.aload_n 0, 1) := by decide +kernel
theorem dX7_custom_135 : decode cX7_custom 135 = .ok (.iload_n 2, 1) := by decide +kernel
theorem dX7_custom_136 : decode cX7_custom 136 = .ok (.iload_n 3, 1) := by decide +kernel
theorem dX7_custom_137 : decode cX7_custom 137 = .ok (.invokestatic 150, 3) := by decide +kernel
theorem dX7_custom_140 : decode cX7_custom 140 = .ok (.ifCond .ne 7, 3) := by decide +kernel
theorem dX7_custom_143 : decode cX7_custom 143 = .ok (.iconst 1, 1) := by decide +kernel
theorem dX7_custom_144 : decode cX7_custom 144 = .ok (.goto 4, 3) := by decide +kernel
theorem dX7_custom_147 : decode cX7_custom 147 = .ok (.iconst 0, 1) := by decide +kernel
theorem dX7_custom_148 : decode cX7_custom 148 = .ok (.iconst 3, 1) := by decide +kernel
theorem dX7_custom_149 : decode cX7_custom 149 = .ok (.aload_n 0, 1) := by decide +kernel
theorem dX7_custom_150 : decode cX7_custom 150 = .ok (.getfield 98, 3) := by decide +kernel
theorem dX7_custom_153 : decode cX7_custom 153 = .ok (.invokevirtual 112, 3) := by decide +kernel
theorem dX7_custom_156 : decode cX7_custom 156 = .ok (.ifCond .eq 19, 3) := by decide +kernel
theorem dX7_custom_159 : decode cX7_custom 159 = .ok (.iload_n 2, 1) := by decide +kernel
theorem dX7_custom_160 : decode cX7_custom 160 = .ok (.iconst 1, 1) := by decide +kernel
theorem dX7_custom_161 : decode cX7_custom 161 = .ok (.iload_n 3, 1) := by decide +kernel
theorem dX7_custom_162 : decode cX7_custom 162 = .ok (.ishl, 1) := by decide +kernel
theorem dX7_custom_163 : decode cX7_custom 163 = .ok (.ior, 1) := by decide +kernel
theorem dX7_custom_164 : decode cX7_custom 164 = .ok (.istore_n 2, 1) := by decide +kernel
theorem dX7_custom_165 : decode cX7_custom 165 = .ok (.aload_n 0, 1) := by decide +kernel
theorem dX7_custom_166 : decode cX7_custom 166 = .ok (.getfield 48, 3) := by decide +kernel
theorem dX7_custom_169 : decode cX7_custom 169 = .ok (.iload_n 1, 1) := by decide +kernel
theorem dX7_custom_170 : decode cX7_custom 170 = .ok (.iload_n 3, 1) := by decide +kernel
theorem dX7_custom_171 : decode cX7_custom 171 = .ok (.iastore, 1) := by decide +kernel
theorem dX7_custom_172 : decode cX7_custom 172 = .ok (.iinc 1 1, 3) := by decide +kernel
theorem dX7_custom_175 : decode cX7_custom 175 = .ok (.aload_n 0, 1) := by decide +kernel
theorem dX7_custom_176 : decode cX7_custom 176 = .ok (.invokevirtual 138, 3) := by decide +kernel
theorem dX7_custom_179 : decode cX7_custom 179 = .ok (.goto (-171), 3) := by decide +kernel
theorem dX7_custom_182 : decode cX7_custom 182 = .ok (.aload_n 0, 1) := by decide +kernel
theorem dX7_custom_183 : decode cX7_custom 183 = .ok (.iconst 0, 1) := by decide +kernel
theorem dX7_custom_184 : decode cX7_custom 184 = .ok (.putfield 82, 3) := by decide +kernel
theorem dX7_custom_187 : decode cX7_custom 187 = .ok (.aload_n 0, 1) := by decide +kernel
theorem dX7_custom_188 : decode cX7_custom 188 = .ok (.getfield 91, 3) := by decide +kernel
theorem dX7_custom_191 : decode cX7_custom 191 = .ok (.ifCond .le 11, 3) := by decide +kernel
theorem dX7_custom_194 : decode cX7_custom 194 = .ok (.bipush (-10), 2) := by decide +kernel
theorem dX7_custom_196 : decode cX7_custom 196 = .ok (.aload_n 0, 1) := by decide +kernel
theorem dX7_custom_197 : decode cX7_custom 197 = .ok (.getfield 91, 3) := by decide +kernel
theorem dX7_custom_200 : decode cX7_custom 200 = .ok (.isub, 1) := by decide +kernel
theorem dX7_custom_201 : decode cX7_custom 201 = .ok (.ireturn, 1) := by decide +kernel
theorem dX7_custom_202 : decode cX7_custom 202 = .ok (.iconst 0, 1) := by decide +kernel
theorem dX7_custom_203 : decode cX7_custom 203 = .ok (.istore_n 3, 1) := by decide +kernel
theorem dX7_custom_204 : decode cX7_custom 204 = .ok (.iload_n 3, 1) := by decide +kernel
theorem dX7_custom_205 : decode cX7_custom 205 = .ok (.iload_n 1, 1) := by decide +kernel
theorem dX7_custom_206 : decode cX7_custom 206 = .ok (.if_icmp .ge 21, 3) := by decide +kernel
theorem dX7_custom_209 : decode cX7_custom 209 = .ok (.aload_n 0, 1) := by decide +kernel
theorem dX7_custom_210 : decode cX7_custom 210 = .ok (.getfield 39, 3) := by decide +kernel
theorem dX7_custom_213 : decode cX7_custom 213 = .ok (.iload_n 3, 1) := by decide +kernel
theorem dX7_custom_214 : decode cX7_custom 214 = .ok (.aload_n 0, 1) := by decide +kernel
theorem dX7_custom_215 : decode cX7_custom 215 = .ok (.getfield 48, 3) := by decide +kernel
theorem dX7_custom_218 : decode cX7_custom 218 = .ok (.iload_n 3, 1) := by decide +kernel
theorem dX7_custom_219 : decode cX7_custom 219 = .ok (.iaload, 1) := by decide +kernel
theorem dX7_custom_220 : decode cX7_custom 220 = .ok (.iastore, 1) := by decide +kernel
theorem dX7_custom_221 : decode cX7_custom 221 = .ok (.iinc 3 1, 3) := by decide +kernel
theorem dX7_custom_224 : decode cX7_custom 224 = .ok (.goto (-20), 3) := by decide +kernel
theorem dX7_custom_227 : decode cX7_custom 227 = .ok (.aload_n 0, 1) := by decide +kernel
theorem dX7_custom_228 : decode cX7_custom 228 = .ok (.iload_n 1, 1) := by decide +kernel
theorem dX7_custom_229 : decode cX7_custom 229 = .ok (.putfield 72, 3) := by decide +kernel
theorem dX7_custom_232 : decode cX7_custom 232 = .ok (.iload_n 1, 1) := by decide +kernel
theorem dX7_custom_233 : decode cX7_custom 233 = .ok (.ireturn, 1) := by decide +kernel
theorem dX7_fault_0 : decode cX7_fault 0 = .ok (.aload_n 0, 1) := by decide +kernel
theorem dX7_fault_1 : decode cX7_fault 1 = .ok (.getfield 45, 3) := by decide +kernel
theorem dX7_fault_4 : decode cX7_fault 4 = .ok (.ireturn, 1) := by decide +kernel
theorem dX7_isYard_0 : decode cX7_isYard 0 = .ok (.iload_n 1, 1) := by decide +kernel
theorem dX7_isYard_1 : decode cX7_isYard 1 = .ok (.i2l, 1) := by decide +kernel
theorem dX7_isYard_2 : decode cX7_isYard 2 = .ok (.lconst 0, 1) := by decide +kernel
theorem dX7_isYard_3 : decode cX7_isYard 3 = .ok (.aload_n 0, 1) := by decide +kernel
theorem dX7_isYard_4 : decode cX7_isYard 4 = .ok (.getfield 36, 3) := by decide +kernel
theorem dX7_isYard_7 : decode cX7_isYard 7 = .ok (.iconst 0, 1) := by decide +kernel
theorem dX7_isYard_8 : decode cX7_isYard 8 = .ok (.iaload, 1) := by decide +kernel
theorem dX7_isYard_9 : decode cX7_isYard 9 = .ok (.iconst 1, 1) := by decide +kernel
theorem dX7_isYard_10 : decode cX7_isYard 10 = .ok (.isub, 1) := by decide +kernel
theorem dX7_isYard_11 : decode cX7_isYard 11 = .ok (.i2l, 1) := by decide +kernel
theorem dX7_isYard_12 : decode cX7_isYard 12 = .ok (.invokestatic 77, 3) := by decide +kernel
theorem dX7_isYard_15 : decode cX7_isYard 15 = .ok (.ireturn, 1) := by decide +kernel
theorem dX7_isDead_0 : decode cX7_isDead 0 = .ok (.iload_n 1, 1) := by decide +kernel
theorem dX7_isDead_1 : decode cX7_isDead 1 = .ok (.i2l, 1) := by decide +kernel
theorem dX7_isDead_2 : decode cX7_isDead 2 = .ok (.lconst 0, 1) := by decide +kernel
theorem dX7_isDead_3 : decode cX7_isDead 3 = .ok (.aload_n 0, 1) := by decide +kernel
theorem dX7_isDead_4 : decode cX7_isDead 4 = .ok (.getfield 36, 3) := by decide +kernel
theorem dX7_isDead_7 : decode cX7_isDead 7 = .ok (.iconst 1, 1) := by decide +kernel
theorem dX7_isDead_8 : decode cX7_isDead 8 = .ok (.iaload, 1) := by decide +kernel
theorem dX7_isDead_9 : decode cX7_isDead 9 = .ok (.iconst 1, 1) := by decide +kernel
theorem dX7_isDead_10 : decode cX7_isDead 10 = .ok (.isub, 1) := by decide +kernel
theorem dX7_isDead_11 : decode cX7_isDead 11 = .ok (.i2l, 1) := by decide +kernel
theorem dX7_isDead_12 : decode cX7_isDead 12 = .ok (.invokestatic 77, 3) := by decide +kernel
theorem dX7_isDead_15 : decode cX7_isDead 15 = .ok (.ireturn, 1) := by decide +kernel
theorem dX7_isInLoft_0 : decode cX7_isInLoft 0 = .ok (.aload_n 0, 1) := by decide +kernel
theorem dX7_isInLoft_1 : decode cX7_isInLoft 1 = .ok (.getfield 7, 3) := by decide +kernel
theorem dX7_isInLoft_4 : decode cX7_isInLoft 4 = .ok (.iload_n 1, 1) := by decide +kernel
theorem dX7_isInLoft_5 : decode cX7_isInLoft 5 = .ok (.bipush 40, 2) := by decide +kernel
theorem dX7_isInLoft_7 : decode cX7_isInLoft 7 = .ok (.iadd, 1) := by decide +kernel
theorem dX7_isInLoft_8 : decode cX7_isInLoft 8 = .ok (.iload_n 2, 1) := by decide +kernel
theorem dX7_isInLoft_9 : decode cX7_isInLoft 9 = .ok (.iadd, 1) := by decide +kernel
theorem dX7_isInLoft_10 : decode cX7_isInLoft 10 = .ok (.iaload, 1) := by decide +kernel
theorem dX7_isInLoft_11 : decode cX7_isInLoft 11 = .ok (.ifCond .ge 21, 3) := by decide +kernel
theorem dX7_isInLoft_14 : decode cX7_isInLoft 14 = .ok (.aload_n 0, 1) := by decide +kernel
theorem dX7_isInLoft_15 : decode cX7_isInLoft 15 = .ok (.getfield 7, 3) := by decide +kernel
theorem dX7_isInLoft_18 : decode cX7_isInLoft 18 = .ok (.iload_n 1, 1) := by decide +kernel
theorem dX7_isInLoft_19 : decode cX7_isInLoft 19 = .ok (.bipush 48, 2) := by decide +kernel
theorem dX7_isInLoft_21 : decode cX7_isInLoft 21 = .ok (.iadd, 1) := by decide +kernel
theorem dX7_isInLoft_22 : decode cX7_isInLoft 22 = .ok (.iload_n 2, 1) := by decide +kernel
theorem dX7_isInLoft_23 : decode cX7_isInLoft 23 = .ok (.iadd, 1) := by decide +kernel
theorem dX7_isInLoft_24 : decode cX7_isInLoft 24 = .ok (.iaload, 1) := by decide +kernel
theorem dX7_isInLoft_25 : decode cX7_isInLoft 25 = .ok (.ifCond .ne 7, 3) := by decide +kernel
theorem dX7_isInLoft_28 : decode cX7_isInLoft 28 = .ok (.iconst 1, 1) := by decide +kernel
theorem dX7_isInLoft_29 : decode cX7_isInLoft 29 = .ok (.goto 4, 3) := by decide +kernel
theorem dX7_isInLoft_32 : decode cX7_isInLoft 32 = .ok (.iconst 0, 1) := by decide +kernel
theorem dX7_isInLoft_33 : decode cX7_isInLoft 33 = .ok (.ireturn, 1) := by decide +kernel
theorem dX7_loft_0 : decode cX7_loft 0 = .ok (.iconst 0, 1) := by decide +kernel
theorem dX7_loft_1 : decode cX7_loft 1 = .ok (.istore_n 2, 1) := by decide +kernel
theorem dX7_loft_2 : decode cX7_loft 2 = .ok (.iconst 0, 1) := by decide +kernel
theorem dX7_loft_3 : decode cX7_loft 3 = .ok (.istore_n 3, 1) := by decide +kernel
theorem dX7_loft_4 : decode cX7_loft 4 = .ok (.iload_n 3, 1) := by decide +kernel
theorem dX7_loft_5 : decode cX7_loft 5 = .ok (.aload_n 0, 1) := by decide +kernel
theorem dX7_loft_6 : decode cX7_loft 6 = .ok (.getfield 36, 3) := by decide +kernel
theorem dX7_loft_9 : decode cX7_loft 9 = .ok (.iconst 1, 1) := by decide +kernel
theorem dX7_loft_10 : decode cX7_loft 10 = .ok (.iaload, 1) := by decide +kernel
theorem dX7_loft_11 : decode cX7_loft 11 = .ok (.if_icmp .ge 23, 3) := by decide +kernel
theorem dX7_loft_14 : decode cX7_loft 14 = .ok (.iload_n 2, 1) := by decide +kernel
theorem dX7_loft_15 : decode cX7_loft 15 = .ok (.aload_n 0, 1) := by decide +kernel
theorem dX7_loft_16 : decode cX7_loft 16 = .ok (.iload_n 1, 1) := by decide +kernel
theorem dX7_loft_17 : decode cX7_loft 17 = .ok (.iload_n 3, 1) := by decide +kernel
theorem dX7_loft_18 : decode cX7_loft 18 = .ok (.invokevirtual 154, 3) := by decide +kernel
theorem dX7_loft_21 : decode cX7_loft 21 = .ok (.invokestatic 157, 3) := by decide +kernel
theorem dX7_loft_24 : decode cX7_loft 24 = .ok (.iload_n 3, 1) := by decide +kernel
theorem dX7_loft_25 : decode cX7_loft 25 = .ok (.ishl, 1) := by decide +kernel
theorem dX7_loft_26 : decode cX7_loft 26 = .ok (.ior, 1) := by decide +kernel
theorem dX7_loft_27 : decode cX7_loft 27 = .ok (.istore_n 2, 1) := by decide +kernel
theorem dX7_loft_28 : decode cX7_loft 28 = .ok (.iinc 3 1, 3) := by decide +kernel
theorem dX7_loft_31 : decode cX7_loft 31 = .ok (.goto (-27), 3) := by decide +kernel
theorem dX7_loft_34 : decode cX7_loft 34 = .ok (.iload_n 2, 1) := by decide +kernel
theorem dX7_loft_35 : decode cX7_loft 35 = .ok (.ireturn, 1) := by decide +kernel
theorem dX7_laid_0 : decode cX7_laid 0 = .ok (.iconst 0, 1) := by decide +kernel
theorem dX7_laid_1 : decode cX7_laid 1 = .ok (.istore_n 2, 1) := by decide +kernel
theorem dX7_laid_2 : decode cX7_laid 2 = .ok (.iconst 0, 1) := by decide +kernel
theorem dX7_laid_3 : decode cX7_laid 3 = .ok (.istore_n 3, 1) := by decide +kernel
theorem dX7_laid_4 : decode cX7_laid 4 = .ok (.iload_n 3, 1) := by decide +kernel
theorem dX7_laid_5 : decode cX7_laid 5 = .ok (.aload_n 0, 1) := by decide +kernel
theorem dX7_laid_6 : decode cX7_laid 6 = .ok (.getfield 36, 3) := by decide +kernel
theorem dX7_laid_9 : decode cX7_laid 9 = .ok (.iconst 1, 1) := by decide +kernel
theorem dX7_laid_10 : decode cX7_laid 10 = .ok (.iaload, 1) := by decide +kernel
theorem dX7_laid_11 : decode cX7_laid 11 = .ok (.if_icmp .ge 36, 3) := by decide +kernel
theorem dX7_laid_14 : decode cX7_laid 14 = .ok (.iload_n 2, 1) := by decide +kernel
theorem dX7_laid_15 : decode cX7_laid 15 = .ok (.aload_n 0, 1) := by decide +kernel
theorem dX7_laid_16 : decode cX7_laid 16 = .ok (.getfield 7, 3) := by decide +kernel
theorem dX7_laid_19 : decode cX7_laid 19 = .ok (.iload_n 1, 1) := by decide +kernel
theorem dX7_laid_20 : decode cX7_laid 20 = .ok (.bipush 40, 2) := by decide +kernel
theorem dX7_laid_22 : decode cX7_laid 22 = .ok (.iadd, 1) := by decide +kernel
theorem dX7_laid_23 : decode cX7_laid 23 = .ok (.iload_n 3, 1) := by decide +kernel
theorem dX7_laid_24 : decode cX7_laid 24 = .ok (.iadd, 1) := by decide +kernel
theorem dX7_laid_25 : decode cX7_laid 25 = .ok (.iaload, 1) := by decide +kernel
theorem dX7_laid_26 : decode cX7_laid 26 = .ok (.ifCond .lt 7, 3) := by decide +kernel
theorem dX7_laid_29 : decode cX7_laid 29 = .ok (.iconst 1, 1) := by decide +kernel
theorem dX7_laid_30 : decode cX7_laid 30 = .ok (.goto 4, 3) := by decide +kernel
theorem dX7_laid_33 : decode cX7_laid 33 = .ok (.iconst 0, 1) := by decide +kernel
theorem dX7_laid_34 : decode cX7_laid 34 = .ok (.invokestatic 157, 3) := by decide +kernel
theorem dX7_laid_37 : decode cX7_laid 37 = .ok (.iload_n 3, 1) := by decide +kernel
theorem dX7_laid_38 : decode cX7_laid 38 = .ok (.ishl, 1) := by decide +kernel
theorem dX7_laid_39 : decode cX7_laid 39 = .ok (.ior, 1) := by decide +kernel
theorem dX7_laid_40 : decode cX7_laid 40 = .ok (.istore_n 2, 1) := by decide +kernel
theorem dX7_laid_41 : decode cX7_laid 41 = .ok (.iinc 3 1, 3) := by decide +kernel
theorem dX7_laid_44 : decode cX7_laid 44 = .ok (.goto (-40), 3) := by decide +kernel
theorem dX7_laid_47 : decode cX7_laid 47 = .ok (.iload_n 2, 1) := by decide +kernel
theorem dX7_laid_48 : decode cX7_laid 48 = .ok (.ireturn, 1) := by decide +kernel
theorem dX7_who_0 : decode cX7_who 0 = .ok (.iconst 0, 1) := by decide +kernel
theorem dX7_who_1 : decode cX7_who 1 = .ok (.istore_n 3, 1) := by decide +kernel
theorem dX7_who_2 : decode cX7_who 2 = .ok (.iload_n 3, 1) := by decide +kernel
theorem dX7_who_3 : decode cX7_who 3 = .ok (.aload_n 0, 1) := by decide +kernel
theorem dX7_who_4 : decode cX7_who 4 = .ok (.getfield 36, 3) := by decide +kernel
theorem dX7_who_7 : decode cX7_who 7 = .ok (.iconst 1, 1) := by decide +kernel
theorem dX7_who_8 : decode cX7_who 8 = .ok (.iaload, 1) := by decide +kernel
theorem dX7_who_9 : decode cX7_who 9 = .ok (.if_icmp .ge 26, 3) := by decide +kernel
theorem dX7_who_12 : decode cX7_who 12 = .ok (.aload_n 0, 1) := by decide +kernel
theorem dX7_who_13 : decode cX7_who 13 = .ok (.getfield 7, 3) := by decide +kernel
theorem dX7_who_16 : decode cX7_who 16 = .ok (.iload_n 1, 1) := by decide +kernel
theorem dX7_who_17 : decode cX7_who 17 = .ok (.bipush 40, 2) := by decide +kernel
theorem dX7_who_19 : decode cX7_who 19 = .ok (.iadd, 1) := by decide +kernel
theorem dX7_who_20 : decode cX7_who 20 = .ok (.iload_n 3, 1) := by decide +kernel
theorem dX7_who_21 : decode cX7_who 21 = .ok (.iadd, 1) := by decide +kernel
theorem dX7_who_22 : decode cX7_who 22 = .ok (.iaload, 1) := by decide +kernel
theorem dX7_who_23 : decode cX7_who 23 = .ok (.iload_n 2, 1) := by decide +kernel
theorem dX7_who_24 : decode cX7_who 24 = .ok (.if_icmp .ne 5, 3) := by decide +kernel
theorem dX7_who_27 : decode cX7_who 27 = .ok (.iload_n 3, 1) := by decide +kernel
theorem dX7_who_28 : decode cX7_who 28 = .ok (.ireturn, 1) := by decide +kernel
theorem dX7_who_29 : decode cX7_who 29 = .ok (.iinc 3 1, 3) := by decide +kernel
theorem dX7_who_32 : decode cX7_who 32 = .ok (.goto (-30), 3) := by decide +kernel
theorem dX7_who_35 : decode cX7_who 35 = .ok (.iconst (-1), 1) := by decide +kernel
theorem dX7_who_36 : decode cX7_who 36 = .ok (.ireturn, 1) := by decide +kernel
theorem dX7_valueBy_0 : decode cX7_valueBy 0 = .ok (.iload_n 2, 1) := by decide +kernel
theorem dX7_valueBy_1 : decode cX7_valueBy 1 = .ok (.ifCond .ne 17, 3) := by decide +kernel
theorem dX7_valueBy_4 : decode cX7_valueBy 4 = .ok (.aload_n 0, 1) := by decide +kernel
theorem dX7_valueBy_5 : decode cX7_valueBy 5 = .ok (.getfield 7, 3) := by decide +kernel
theorem dX7_valueBy_8 : decode cX7_valueBy 8 = .ok (.iload_n 1, 1) := by decide +kernel
theorem dX7_valueBy_9 : decode cX7_valueBy 9 = .ok (.bipush 8, 2) := by decide +kernel
theorem dX7_valueBy_11 : decode cX7_valueBy 11 = .ok (.iadd, 1) := by decide +kernel
theorem dX7_valueBy_12 : decode cX7_valueBy 12 = .ok (.iload_n 3, 1) := by decide +kernel
theorem dX7_valueBy_13 : decode cX7_valueBy 13 = .ok (.iadd, 1) := by decide +kernel
theorem dX7_valueBy_14 : decode cX7_valueBy 14 = .ok (.iaload, 1) := by decide +kernel
theorem dX7_valueBy_15 : decode cX7_valueBy 15 = .ok (.goto 48, 3) := by decide +kernel
theorem dX7_valueBy_18 : decode cX7_valueBy 18 = .ok (.iload_n 2, 1) := by decide +kernel
theorem dX7_valueBy_19 : decode cX7_valueBy 19 = .ok (.iconst 1, 1) := by decide +kernel
theorem dX7_valueBy_20 : decode cX7_valueBy 20 = .ok (.if_icmp .ne 17, 3) := by decide +kernel
theorem dX7_valueBy_23 : decode cX7_valueBy 23 = .ok (.aload_n 0, 1) := by decide +kernel
theorem dX7_valueBy_24 : decode cX7_valueBy 24 = .ok (.getfield 7, 3) := by decide +kernel
theorem dX7_valueBy_27 : decode cX7_valueBy 27 = .ok (.iload_n 1, 1) := by decide +kernel
theorem dX7_valueBy_28 : decode cX7_valueBy 28 = .ok (.bipush 16, 2) := by decide +kernel
theorem dX7_valueBy_30 : decode cX7_valueBy 30 = .ok (.iadd, 1) := by decide +kernel
theorem dX7_valueBy_31 : decode cX7_valueBy 31 = .ok (.iload_n 3, 1) := by decide +kernel
theorem dX7_valueBy_32 : decode cX7_valueBy 32 = .ok (.iadd, 1) := by decide +kernel
theorem dX7_valueBy_33 : decode cX7_valueBy 33 = .ok (.iaload, 1) := by decide +kernel
theorem dX7_valueBy_34 : decode cX7_valueBy 34 = .ok (.goto 29, 3) := by decide +kernel
theorem dX7_valueBy_37 : decode cX7_valueBy 37 = .ok (.iload_n 2, 1) := by decide +kernel
theorem dX7_valueBy_38 : decode cX7_valueBy 38 = .ok (.iconst 2, 1) := by decide +kernel
theorem dX7_valueBy_39 : decode cX7_valueBy 39 = .ok (.if_icmp .ne 17, 3) := by decide +kernel
theorem dX7_valueBy_42 : decode cX7_valueBy 42 = .ok (.aload_n 0, 1) := by decide +kernel
theorem dX7_valueBy_43 : decode cX7_valueBy 43 = .ok (.getfield 7, 3) := by decide +kernel
theorem dX7_valueBy_46 : decode cX7_valueBy 46 = .ok (.iload_n 1, 1) := by decide +kernel
theorem dX7_valueBy_47 : decode cX7_valueBy 47 = .ok (.bipush 24, 2) := by decide +kernel
theorem dX7_valueBy_49 : decode cX7_valueBy 49 = .ok (.iadd, 1) := by decide +kernel
theorem dX7_valueBy_50 : decode cX7_valueBy 50 = .ok (.iload_n 3, 1) := by decide +kernel
theorem dX7_valueBy_51 : decode cX7_valueBy 51 = .ok (.iadd, 1) := by decide +kernel
theorem dX7_valueBy_52 : decode cX7_valueBy 52 = .ok (.iaload, 1) := by decide +kernel
theorem dX7_valueBy_53 : decode cX7_valueBy 53 = .ok (.goto 10, 3) := by decide +kernel
theorem dX7_valueBy_56 : decode cX7_valueBy 56 = .ok (.aload_n 0, 1) := by decide +kernel
theorem dX7_valueBy_57 : decode cX7_valueBy 57 = .ok (.getfield 33, 3) := by decide +kernel
theorem dX7_valueBy_60 : decode cX7_valueBy 60 = .ok (.iload_n 3, 1) := by decide +kernel
theorem dX7_valueBy_61 : decode cX7_valueBy 61 = .ok (.iaload, 1) := by decide +kernel
theorem dX7_valueBy_62 : decode cX7_valueBy 62 = .ok (.ineg, 1) := by decide +kernel
theorem dX7_valueBy_63 : decode cX7_valueBy 63 = .ok (.ireturn, 1) := by decide +kernel
theorem dX7_isAheadByCustom_0 : decode cX7_isAheadByCustom 0 = .ok (.iconst 0, 1) := by decide +kernel
theorem dX7_isAheadByCustom_1 : decode cX7_isAheadByCustom 1 = .ok (.istore 4, 2) := by decide +kernel
theorem dX7_isAheadByCustom_3 : decode cX7_isAheadByCustom 3 = .ok (.iload 4, 2) := by decide +kernel
theorem dX7_isAheadByCustom_5 : decode cX7_isAheadByCustom 5 = .ok (.aload_n 0, 1) := by decide +kernel
theorem dX7_isAheadByCustom_6 : decode cX7_isAheadByCustom 6 = .ok (.getfield 72, 3) := by decide +kernel
theorem dX7_isAheadByCustom_9 : decode cX7_isAheadByCustom 9 = .ok (.if_icmp .ge 54, 3) := by decide +kernel
theorem dX7_isAheadByCustom_12 : decode cX7_isAheadByCustom 12 = .ok (.aload_n 0, 1) := by decide +kernel
theorem dX7_isAheadByCustom_13 : decode cX7_isAheadByCustom 13 = .ok (.iload_n 1, 1) := by decide +kernel
theorem dX7_isAheadByCustom_14 : decode cX7_isAheadByCustom 14 = .ok (.aload_n 0, 1) := by decide +kernel
theorem dX7_isAheadByCustom_15 : decode cX7_isAheadByCustom 15 = .ok (.getfield 39, 3) := by decide +kernel
theorem dX7_isAheadByCustom_18 : decode cX7_isAheadByCustom 18 = .ok (.iload 4, 2) := by decide +kernel
theorem dX7_isAheadByCustom_20 : decode cX7_isAheadByCustom 20 = .ok (.iaload, 1) := by decide +kernel
theorem dX7_isAheadByCustom_21 : decode cX7_isAheadByCustom 21 = .ok (.iload_n 2, 1) := by decide +kernel
theorem dX7_isAheadByCustom_22 : decode cX7_isAheadByCustom 22 = .ok (.invokevirtual 161, 3) := by decide +kernel
theorem dX7_isAheadByCustom_25 : decode cX7_isAheadByCustom 25 = .ok (.aload_n 0, 1) := by decide +kernel
theorem dX7_isAheadByCustom_26 : decode cX7_isAheadByCustom 26 = .ok (.iload_n 1, 1) := by decide +kernel
theorem dX7_isAheadByCustom_27 : decode cX7_isAheadByCustom 27 = .ok (.aload_n 0, 1) := by decide +kernel
theorem dX7_isAheadByCustom_28 : decode cX7_isAheadByCustom 28 = .ok (.getfield 39, 3) := by decide +kernel
theorem dX7_isAheadByCustom_31 : decode cX7_isAheadByCustom 31 = .ok (.iload 4, 2) := by decide +kernel
theorem dX7_isAheadByCustom_33 : decode cX7_isAheadByCustom 33 = .ok (.iaload, 1) := by decide +kernel
theorem dX7_isAheadByCustom_34 : decode cX7_isAheadByCustom 34 = .ok (.iload_n 3, 1) := by decide +kernel
theorem dX7_isAheadByCustom_35 : decode cX7_isAheadByCustom 35 = .ok (.invokevirtual 161, 3) := by decide +kernel
theorem dX7_isAheadByCustom_38 : decode cX7_isAheadByCustom 38 = .ok (.isub, 1) := by decide +kernel
theorem dX7_isAheadByCustom_39 : decode cX7_isAheadByCustom 39 = .ok (.istore 5, 2) := by decide +kernel
theorem dX7_isAheadByCustom_41 : decode cX7_isAheadByCustom 41 = .ok (.iload 5, 2) := by decide +kernel
theorem dX7_isAheadByCustom_43 : decode cX7_isAheadByCustom 43 = .ok (.ifCond .eq 14, 3) := by decide +kernel
theorem dX7_isAheadByCustom_46 : decode cX7_isAheadByCustom 46 = .ok (.iload 5, 2) := by decide +kernel
theorem dX7_isAheadByCustom_48 : decode cX7_isAheadByCustom 48 = .ok (.ifCond .le 7, 3) := by decide +kernel
theorem dX7_isAheadByCustom_51 : decode cX7_isAheadByCustom 51 = .ok (.iconst 1, 1) := by decide +kernel
theorem dX7_isAheadByCustom_52 : decode cX7_isAheadByCustom 52 = .ok (.goto 4, 3) := by decide +kernel
theorem dX7_isAheadByCustom_55 : decode cX7_isAheadByCustom 55 = .ok (.iconst 0, 1) := by decide +kernel
theorem dX7_isAheadByCustom_56 : decode cX7_isAheadByCustom 56 = .ok (.ireturn, 1) := by decide +kernel
theorem dX7_isAheadByCustom_57 : decode cX7_isAheadByCustom 57 = .ok (.iinc 4 1, 3) := by decide +kernel
theorem dX7_isAheadByCustom_60 : decode cX7_isAheadByCustom 60 = .ok (.goto (-57), 3) := by decide +kernel
theorem dX7_isAheadByCustom_63 : decode cX7_isAheadByCustom 63 = .ok (.iload_n 2, 1) := by decide +kernel
theorem dX7_isAheadByCustom_64 : decode cX7_isAheadByCustom 64 = .ok (.iload_n 3, 1) := by decide +kernel
theorem dX7_isAheadByCustom_65 : decode cX7_isAheadByCustom 65 = .ok (.if_icmp .ge 7, 3) := by decide +kernel
theorem dX7_isAheadByCustom_68 : decode cX7_isAheadByCustom 68 = .ok (.iconst 1, 1) := by decide +kernel
theorem dX7_isAheadByCustom_69 : decode cX7_isAheadByCustom 69 = .ok (.goto 4, 3) := by decide +kernel
theorem dX7_isAheadByCustom_72 : decode cX7_isAheadByCustom 72 = .ok (.iconst 0, 1) := by decide +kernel
theorem dX7_isAheadByCustom_73 : decode cX7_isAheadByCustom 73 = .ok (.ireturn, 1) := by decide +kernel
theorem dX7_isAhead_0 : decode cX7_isAhead 0 = .ok (.aload_n 0, 1) := by decide +kernel
theorem dX7_isAhead_1 : decode cX7_isAhead 1 = .ok (.getfield 7, 3) := by decide +kernel
theorem dX7_isAhead_4 : decode cX7_isAhead 4 = .ok (.iload_n 1, 1) := by decide +kernel
theorem dX7_isAhead_5 : decode cX7_isAhead 5 = .ok (.bipush 32, 2) := by decide +kernel
theorem dX7_isAhead_7 : decode cX7_isAhead 7 = .ok (.iadd, 1) := by decide +kernel
theorem dX7_isAhead_8 : decode cX7_isAhead 8 = .ok (.iload_n 2, 1) := by decide +kernel
theorem dX7_isAhead_9 : decode cX7_isAhead 9 = .ok (.iadd, 1) := by decide +kernel
theorem dX7_isAhead_10 : decode cX7_isAhead 10 = .ok (.iaload, 1) := by decide +kernel
theorem dX7_isAhead_11 : decode cX7_isAhead 11 = .ok (.ifCond .ne 7, 3) := by decide +kernel
theorem dX7_isAhead_14 : decode cX7_isAhead 14 = .ok (.iconst 1, 1) := by decide +kernel
theorem dX7_isAhead_15 : decode cX7_isAhead 15 = .ok (.goto 4, 3) := by decide +kernel
theorem dX7_isAhead_18 : decode cX7_isAhead 18 = .ok (.iconst 0, 1) := by decide +kernel
theorem dX7_isAhead_19 : decode cX7_isAhead 19 = .ok (.istore 4, 2) := by decide +kernel
theorem dX7_isAhead_21 : decode cX7_isAhead 21 = .ok (.aload_n 0, 1) := by decide +kernel
theorem dX7_isAhead_22 : decode cX7_isAhead 22 = .ok (.getfield 7, 3) := by decide +kernel
theorem dX7_isAhead_25 : decode cX7_isAhead 25 = .ok (.iload_n 1, 1) := by decide +kernel
theorem dX7_isAhead_26 : decode cX7_isAhead 26 = .ok (.bipush 32, 2) := by decide +kernel
theorem dX7_isAhead_28 : decode cX7_isAhead 28 = .ok (.iadd, 1) := by decide +kernel
theorem dX7_isAhead_29 : decode cX7_isAhead 29 = .ok (.iload_n 3, 1) := by decide +kernel
theorem dX7_isAhead_30 : decode cX7_isAhead 30 = .ok (.iadd, 1) := by decide +kernel
theorem dX7_isAhead_31 : decode cX7_isAhead 31 = .ok (.iaload, 1) := by decide +kernel
theorem dX7_isAhead_32 : decode cX7_isAhead 32 = .ok (.ifCond .ne 7, 3) := by decide +kernel
theorem dX7_isAhead_35 : decode cX7_isAhead 35 = .ok (.iconst 1, 1) := by decide +kernel
theorem dX7_isAhead_36 : decode cX7_isAhead 36 = .ok (.goto 4, 3) := by decide +kernel
theorem dX7_isAhead_39 : decode cX7_isAhead 39 = .ok (.iconst 0, 1) := by decide +kernel
theorem dX7_isAhead_40 : decode cX7_isAhead 40 = .ok (.istore 5, 2) := by decide +kernel
theorem dX7_isAhead_42 : decode cX7_isAhead 42 = .ok (.iload 4, 2) := by decide +kernel
theorem dX7_isAhead_44 : decode cX7_isAhead 44 = .ok (.iload 5, 2) := by decide +kernel
theorem dX7_isAhead_46 : decode cX7_isAhead 46 = .ok (.if_icmp .eq 8, 3) := by decide +kernel
theorem dX7_isAhead_49 : decode cX7_isAhead 49 = .ok (.iload 4, 2) := by decide +kernel
theorem dX7_isAhead_51 : decode cX7_isAhead 51 = .ok (.goto 10, 3) := by decide +kernel
theorem dX7_isAhead_54 : decode cX7_isAhead 54 = .ok (.aload_n 0, 1) := by decide +kernel
theorem dX7_isAhead_55 : decode cX7_isAhead 55 = .ok (.iload_n 1, 1) := by decide +kernel
theorem dX7_isAhead_56 : decode cX7_isAhead 56 = .ok (.iload_n 2, 1) := by decide +kernel
theorem dX7_isAhead_57 : decode cX7_isAhead 57 = .ok (.iload_n 3, 1) := by decide +kernel
theorem dX7_isAhead_58 : decode cX7_isAhead 58 = .ok (.invokevirtual 165, 3) := by decide +kernel
theorem dX7_isAhead_61 : decode cX7_isAhead 61 = .ok (.ireturn, 1) := by decide +kernel
theorem dX7_placeOf_0 : decode cX7_placeOf 0 = .ok (.iconst 0, 1) := by decide +kernel
theorem dX7_placeOf_1 : decode cX7_placeOf 1 = .ok (.istore_n 3, 1) := by decide +kernel
theorem dX7_placeOf_2 : decode cX7_placeOf 2 = .ok (.iconst 0, 1) := by decide +kernel
theorem dX7_placeOf_3 : decode cX7_placeOf 3 = .ok (.istore 4, 2) := by decide +kernel
theorem dX7_placeOf_5 : decode cX7_placeOf 5 = .ok (.iload 4, 2) := by decide +kernel
theorem dX7_placeOf_7 : decode cX7_placeOf 7 = .ok (.aload_n 0, 1) := by decide +kernel
theorem dX7_placeOf_8 : decode cX7_placeOf 8 = .ok (.getfield 36, 3) := by decide +kernel
theorem dX7_placeOf_11 : decode cX7_placeOf 11 = .ok (.iconst 1, 1) := by decide +kernel
theorem dX7_placeOf_12 : decode cX7_placeOf 12 = .ok (.iaload, 1) := by decide +kernel
theorem dX7_placeOf_13 : decode cX7_placeOf 13 = .ok (.if_icmp .ge 47, 3) := by decide +kernel
theorem dX7_placeOf_16 : decode cX7_placeOf 16 = .ok (.iload_n 3, 1) := by decide +kernel
theorem dX7_placeOf_17 : decode cX7_placeOf 17 = .ok (.iload 4, 2) := by decide +kernel
theorem dX7_placeOf_19 : decode cX7_placeOf 19 = .ok (.iload_n 2, 1) := by decide +kernel
theorem dX7_placeOf_20 : decode cX7_placeOf 20 = .ok (.if_icmp .eq 28, 3) := by decide +kernel
theorem dX7_placeOf_23 : decode cX7_placeOf 23 = .ok (.aload_n 0, 1) := by decide +kernel
theorem dX7_placeOf_24 : decode cX7_placeOf 24 = .ok (.iload_n 1, 1) := by decide +kernel
theorem dX7_placeOf_25 : decode cX7_placeOf 25 = .ok (.iload 4, 2) := by decide +kernel
theorem dX7_placeOf_27 : decode cX7_placeOf 27 = .ok (.invokevirtual 154, 3) := by decide +kernel
theorem dX7_placeOf_30 : decode cX7_placeOf 30 = .ok (.ifCond .eq 18, 3) := by decide +kernel
theorem dX7_placeOf_33 : decode cX7_placeOf 33 = .ok (.aload_n 0, 1) := by decide +kernel
theorem dX7_placeOf_34 : decode cX7_placeOf 34 = .ok (.iload_n 1, 1) := by decide +kernel
theorem dX7_placeOf_35 : decode cX7_placeOf 35 = .ok (.iload 4, 2) := by decide +kernel
theorem dX7_placeOf_37 : decode cX7_placeOf 37 = .ok (.iload_n 2, 1) := by decide +kernel
theorem dX7_placeOf_38 : decode cX7_placeOf 38 = .ok (.invokevirtual 169, 3) := by decide +kernel
theorem dX7_placeOf_41 : decode cX7_placeOf 41 = .ok (.ifCond .eq 7, 3) := by decide +kernel
theorem dX7_placeOf_44 : decode cX7_placeOf 44 = .ok (.iconst 1, 1) := by decide +kernel
theorem dX7_placeOf_45 : decode cX7_placeOf 45 = .ok (.goto 4, 3) := by decide +kernel
theorem dX7_placeOf_48 : decode cX7_placeOf 48 = .ok (.iconst 0, 1) := by decide +kernel
theorem dX7_placeOf_49 : decode cX7_placeOf 49 = .ok (.invokestatic 157, 3) := by decide +kernel
theorem dX7_placeOf_52 : decode cX7_placeOf 52 = .ok (.iadd, 1) := by decide +kernel
theorem dX7_placeOf_53 : decode cX7_placeOf 53 = .ok (.istore_n 3, 1) := by decide +kernel
theorem dX7_placeOf_54 : decode cX7_placeOf 54 = .ok (.iinc 4 1, 3) := by decide +kernel
theorem dX7_placeOf_57 : decode cX7_placeOf 57 = .ok (.goto (-52), 3) := by decide +kernel
theorem dX7_placeOf_60 : decode cX7_placeOf 60 = .ok (.iload_n 3, 1) := by decide +kernel
theorem dX7_placeOf_61 : decode cX7_placeOf 61 = .ok (.ireturn, 1) := by decide +kernel
theorem dX7_inOrder_0 : decode cX7_inOrder 0 = .ok (.iconst 0, 1) := by decide +kernel
theorem dX7_inOrder_1 : decode cX7_inOrder 1 = .ok (.istore_n 3, 1) := by decide +kernel
theorem dX7_inOrder_2 : decode cX7_inOrder 2 = .ok (.iload_n 3, 1) := by decide +kernel
theorem dX7_inOrder_3 : decode cX7_inOrder 3 = .ok (.aload_n 0, 1) := by decide +kernel
theorem dX7_inOrder_4 : decode cX7_inOrder 4 = .ok (.getfield 36, 3) := by decide +kernel
theorem dX7_inOrder_7 : decode cX7_inOrder 7 = .ok (.iconst 1, 1) := by decide +kernel
theorem dX7_inOrder_8 : decode cX7_inOrder 8 = .ok (.iaload, 1) := by decide +kernel
theorem dX7_inOrder_9 : decode cX7_inOrder 9 = .ok (.if_icmp .ge 30, 3) := by decide +kernel
theorem dX7_inOrder_12 : decode cX7_inOrder 12 = .ok (.aload_n 0, 1) := by decide +kernel
theorem dX7_inOrder_13 : decode cX7_inOrder 13 = .ok (.iload_n 1, 1) := by decide +kernel
theorem dX7_inOrder_14 : decode cX7_inOrder 14 = .ok (.iload_n 3, 1) := by decide +kernel
theorem dX7_inOrder_15 : decode cX7_inOrder 15 = .ok (.invokevirtual 154, 3) := by decide +kernel
theorem dX7_inOrder_18 : decode cX7_inOrder 18 = .ok (.ifCond .eq 15, 3) := by decide +kernel
theorem dX7_inOrder_21 : decode cX7_inOrder 21 = .ok (.aload_n 0, 1) := by decide +kernel
theorem dX7_inOrder_22 : decode cX7_inOrder 22 = .ok (.iload_n 1, 1) := by decide +kernel
theorem dX7_inOrder_23 : decode cX7_inOrder 23 = .ok (.iload_n 3, 1) := by decide +kernel
theorem dX7_inOrder_24 : decode cX7_inOrder 24 = .ok (.invokevirtual 172, 3) := by decide +kernel
theorem dX7_inOrder_27 : decode cX7_inOrder 27 = .ok (.iload_n 2, 1) := by decide +kernel
theorem dX7_inOrder_28 : decode cX7_inOrder 28 = .ok (.if_icmp .ne 5, 3) := by decide +kernel
theorem dX7_inOrder_31 : decode cX7_inOrder 31 = .ok (.iload_n 3, 1) := by decide +kernel
theorem dX7_inOrder_32 : decode cX7_inOrder 32 = .ok (.ireturn, 1) := by decide +kernel
theorem dX7_inOrder_33 : decode cX7_inOrder 33 = .ok (.iinc 3 1, 3) := by decide +kernel
theorem dX7_inOrder_36 : decode cX7_inOrder 36 = .ok (.goto (-34), 3) := by decide +kernel
theorem dX7_inOrder_39 : decode cX7_inOrder 39 = .ok (.iconst (-1), 1) := by decide +kernel
theorem dX7_inOrder_40 : decode cX7_inOrder 40 = .ok (.ireturn, 1) := by decide +kernel
theorem dX7_told_0 : decode cX7_told 0 = .ok (.iload_n 1, 1) := by decide +kernel
theorem dX7_told_1 : decode cX7_told 1 = .ok (.tableswitch 114 0 9 #[55, 62, 69, 74, 79, 84, 90, 96, 104, 109], 55) := by decide +kernel
theorem dX7_told_56 : decode cX7_told 56 = .ok (.aload_n 0, 1) := by decide +kernel
theorem dX7_told_57 : decode cX7_told 57 = .ok (.getfield 36, 3) := by decide +kernel
theorem dX7_told_60 : decode cX7_told 60 = .ok (.iconst 0, 1) := by decide +kernel
theorem dX7_told_61 : decode cX7_told 61 = .ok (.iaload, 1) := by decide +kernel
theorem dX7_told_62 : decode cX7_told 62 = .ok (.ireturn, 1) := by decide +kernel
theorem dX7_told_63 : decode cX7_told 63 = .ok (.aload_n 0, 1) := by decide +kernel
theorem dX7_told_64 : decode cX7_told 64 = .ok (.getfield 36, 3) := by decide +kernel
theorem dX7_told_67 : decode cX7_told 67 = .ok (.iconst 1, 1) := by decide +kernel
theorem dX7_told_68 : decode cX7_told 68 = .ok (.iaload, 1) := by decide +kernel
theorem dX7_told_69 : decode cX7_told 69 = .ok (.ireturn, 1) := by decide +kernel
theorem dX7_told_70 : decode cX7_told 70 = .ok (.aload_n 0, 1) := by decide +kernel
theorem dX7_told_71 : decode cX7_told 71 = .ok (.getfield 82, 3) := by decide +kernel
theorem dX7_told_74 : decode cX7_told 74 = .ok (.ireturn, 1) := by decide +kernel
theorem dX7_told_75 : decode cX7_told 75 = .ok (.aload_n 0, 1) := by decide +kernel
theorem dX7_told_76 : decode cX7_told 76 = .ok (.getfield 17, 3) := by decide +kernel
theorem dX7_told_79 : decode cX7_told 79 = .ok (.ireturn, 1) := by decide +kernel
theorem dX7_told_80 : decode cX7_told 80 = .ok (.aload_n 0, 1) := by decide +kernel
theorem dX7_told_81 : decode cX7_told 81 = .ok (.getfield 21, 3) := by decide +kernel
theorem dX7_told_84 : decode cX7_told 84 = .ok (.ireturn, 1) := by decide +kernel
theorem dX7_told_85 : decode cX7_told 85 = .ok (.aload_n 0, 1) := by decide +kernel
theorem dX7_told_86 : decode cX7_told 86 = .ok (.iconst 0, 1) := by decide +kernel
theorem dX7_told_87 : decode cX7_told 87 = .ok (.invokevirtual 175, 3) := by decide +kernel
theorem dX7_told_90 : decode cX7_told 90 = .ok (.ireturn, 1) := by decide +kernel
theorem dX7_told_91 : decode cX7_told 91 = .ok (.aload_n 0, 1) := by decide +kernel
theorem dX7_told_92 : decode cX7_told 92 = .ok (.iconst 0, 1) := by decide +kernel
theorem dX7_told_93 : decode cX7_told 93 = .ok (.invokevirtual 179, 3) := by decide +kernel
theorem dX7_told_96 : decode cX7_told 96 = .ok (.ireturn, 1) := by decide +kernel
theorem dX7_told_97 : decode cX7_told 97 = .ok (.aload_n 0, 1) := by decide +kernel
theorem dX7_told_98 : decode cX7_told 98 = .ok (.getfield 7, 3) := by decide +kernel
theorem dX7_told_101 : decode cX7_told 101 = .ok (.bipush 72, 2) := by decide +kernel
theorem dX7_told_103 : decode cX7_told 103 = .ok (.iaload, 1) := by decide +kernel
theorem dX7_told_104 : decode cX7_told 104 = .ok (.ireturn, 1) := by decide +kernel
theorem dX7_told_105 : decode cX7_told 105 = .ok (.aload_n 0, 1) := by decide +kernel
theorem dX7_told_106 : decode cX7_told 106 = .ok (.getfield 147, 3) := by decide +kernel
theorem dX7_told_109 : decode cX7_told 109 = .ok (.ireturn, 1) := by decide +kernel
theorem dX7_told_110 : decode cX7_told 110 = .ok (.aload_n 0, 1) := by decide +kernel
theorem dX7_told_111 : decode cX7_told 111 = .ok (.getfield 72, 3) := by decide +kernel
theorem dX7_told_114 : decode cX7_told 114 = .ok (.ireturn, 1) := by decide +kernel
theorem dX7_told_115 : decode cX7_told 115 = .ok (.ldc 81, 2) := by decide +kernel
theorem dX7_told_117 : decode cX7_told 117 = .ok (.ireturn, 1) := by decide +kernel
theorem dX7_yard_0 : decode cX7_yard 0 = .ok (.aload_n 0, 1) := by decide +kernel
theorem dX7_yard_1 : decode cX7_yard 1 = .ok (.iload_n 1, 1) := by decide +kernel
theorem dX7_yard_2 : decode cX7_yard 2 = .ok (.invokevirtual 182, 3) := by decide +kernel
theorem dX7_yard_5 : decode cX7_yard 5 = .ok (.ifCond .ne 6, 3) := by decide +kernel
theorem dX7_yard_8 : decode cX7_yard 8 = .ok (.ldc 186, 2) := by decide +kernel
theorem dX7_yard_10 : decode cX7_yard 10 = .ok (.ireturn, 1) := by decide +kernel
theorem dX7_yard_11 : decode cX7_yard 11 = .ok (.iload_n 2, 1) := by decide +kernel
theorem dX7_yard_12 : decode cX7_yard 12 = .ok (.ifCond .ne 12, 3) := by decide +kernel
theorem dX7_yard_15 : decode cX7_yard 15 = .ok (.aload_n 0, 1) := by decide +kernel
theorem dX7_yard_16 : decode cX7_yard 16 = .ok (.getfield 7, 3) := by decide +kernel
theorem dX7_yard_19 : decode cX7_yard 19 = .ok (.iload_n 1, 1) := by decide +kernel
theorem dX7_yard_20 : decode cX7_yard 20 = .ok (.iaload, 1) := by decide +kernel
theorem dX7_yard_21 : decode cX7_yard 21 = .ok (.goto 19, 3) := by decide +kernel
theorem dX7_yard_24 : decode cX7_yard 24 = .ok (.iload_n 2, 1) := by decide +kernel
theorem dX7_yard_25 : decode cX7_yard 25 = .ok (.iconst 1, 1) := by decide +kernel
theorem dX7_yard_26 : decode cX7_yard 26 = .ok (.if_icmp .ne 12, 3) := by decide +kernel
theorem dX7_yard_29 : decode cX7_yard 29 = .ok (.aload_n 0, 1) := by decide +kernel
theorem dX7_yard_30 : decode cX7_yard 30 = .ok (.iconst 0, 1) := by decide +kernel
theorem dX7_yard_31 : decode cX7_yard 31 = .ok (.iload_n 1, 1) := by decide +kernel
theorem dX7_yard_32 : decode cX7_yard 32 = .ok (.invokevirtual 187, 3) := by decide +kernel
theorem dX7_yard_35 : decode cX7_yard 35 = .ok (.goto 5, 3) := by decide +kernel
theorem dX7_yard_38 : decode cX7_yard 38 = .ok (.ldc 81, 2) := by decide +kernel
theorem dX7_yard_40 : decode cX7_yard 40 = .ok (.ireturn, 1) := by decide +kernel
theorem dX7_dead_0 : decode cX7_dead 0 = .ok (.aload_n 0, 1) := by decide +kernel
theorem dX7_dead_1 : decode cX7_dead 1 = .ok (.iload_n 1, 1) := by decide +kernel
theorem dX7_dead_2 : decode cX7_dead 2 = .ok (.invokevirtual 190, 3) := by decide +kernel
theorem dX7_dead_5 : decode cX7_dead 5 = .ok (.ifCond .ne 6, 3) := by decide +kernel
theorem dX7_dead_8 : decode cX7_dead 8 = .ok (.ldc 186, 2) := by decide +kernel
theorem dX7_dead_10 : decode cX7_dead 10 = .ok (.ireturn, 1) := by decide +kernel
theorem dX7_dead_11 : decode cX7_dead 11 = .ok (.iload_n 2, 1) := by decide +kernel
theorem dX7_dead_12 : decode cX7_dead 12 = .ok (.tableswitch 139 0 8 #[52, 62, 72, 79, 89, 99, 109, 119, 129], 52) := by decide +kernel
theorem dX7_dead_64 : decode cX7_dead 64 = .ok (.aload_n 0, 1) := by decide +kernel
theorem dX7_dead_65 : decode cX7_dead 65 = .ok (.getfield 7, 3) := by decide +kernel
theorem dX7_dead_68 : decode cX7_dead 68 = .ok (.bipush 8, 2) := by decide +kernel
theorem dX7_dead_70 : decode cX7_dead 70 = .ok (.iload_n 1, 1) := by decide +kernel
theorem dX7_dead_71 : decode cX7_dead 71 = .ok (.iadd, 1) := by decide +kernel
theorem dX7_dead_72 : decode cX7_dead 72 = .ok (.iaload, 1) := by decide +kernel
theorem dX7_dead_73 : decode cX7_dead 73 = .ok (.ireturn, 1) := by decide +kernel
theorem dX7_dead_74 : decode cX7_dead 74 = .ok (.aload_n 0, 1) := by decide +kernel
theorem dX7_dead_75 : decode cX7_dead 75 = .ok (.getfield 7, 3) := by decide +kernel
theorem dX7_dead_78 : decode cX7_dead 78 = .ok (.bipush 16, 2) := by decide +kernel
theorem dX7_dead_80 : decode cX7_dead 80 = .ok (.iload_n 1, 1) := by decide +kernel
theorem dX7_dead_81 : decode cX7_dead 81 = .ok (.iadd, 1) := by decide +kernel
theorem dX7_dead_82 : decode cX7_dead 82 = .ok (.iaload, 1) := by decide +kernel
theorem dX7_dead_83 : decode cX7_dead 83 = .ok (.ireturn, 1) := by decide +kernel
theorem dX7_dead_84 : decode cX7_dead 84 = .ok (.aload_n 0, 1) := by decide +kernel
theorem dX7_dead_85 : decode cX7_dead 85 = .ok (.getfield 33, 3) := by decide +kernel
theorem dX7_dead_88 : decode cX7_dead 88 = .ok (.iload_n 1, 1) := by decide +kernel
theorem dX7_dead_89 : decode cX7_dead 89 = .ok (.iaload, 1) := by decide +kernel
theorem dX7_dead_90 : decode cX7_dead 90 = .ok (.ireturn, 1) := by decide +kernel
theorem dX7_dead_91 : decode cX7_dead 91 = .ok (.aload_n 0, 1) := by decide +kernel
theorem dX7_dead_92 : decode cX7_dead 92 = .ok (.getfield 7, 3) := by decide +kernel
theorem dX7_dead_95 : decode cX7_dead 95 = .ok (.bipush 24, 2) := by decide +kernel
theorem dX7_dead_97 : decode cX7_dead 97 = .ok (.iload_n 1, 1) := by decide +kernel
theorem dX7_dead_98 : decode cX7_dead 98 = .ok (.iadd, 1) := by decide +kernel
theorem dX7_dead_99 : decode cX7_dead 99 = .ok (.iaload, 1) := by decide +kernel
theorem dX7_dead_100 : decode cX7_dead 100 = .ok (.ireturn, 1) := by decide +kernel
theorem dX7_dead_101 : decode cX7_dead 101 = .ok (.aload_n 0, 1) := by decide +kernel
theorem dX7_dead_102 : decode cX7_dead 102 = .ok (.getfield 7, 3) := by decide +kernel
theorem dX7_dead_105 : decode cX7_dead 105 = .ok (.bipush 32, 2) := by decide +kernel
theorem dX7_dead_107 : decode cX7_dead 107 = .ok (.iload_n 1, 1) := by decide +kernel
theorem dX7_dead_108 : decode cX7_dead 108 = .ok (.iadd, 1) := by decide +kernel
theorem dX7_dead_109 : decode cX7_dead 109 = .ok (.iaload, 1) := by decide +kernel
theorem dX7_dead_110 : decode cX7_dead 110 = .ok (.ireturn, 1) := by decide +kernel
theorem dX7_dead_111 : decode cX7_dead 111 = .ok (.aload_n 0, 1) := by decide +kernel
theorem dX7_dead_112 : decode cX7_dead 112 = .ok (.getfield 7, 3) := by decide +kernel
theorem dX7_dead_115 : decode cX7_dead 115 = .ok (.bipush 40, 2) := by decide +kernel
theorem dX7_dead_117 : decode cX7_dead 117 = .ok (.iload_n 1, 1) := by decide +kernel
theorem dX7_dead_118 : decode cX7_dead 118 = .ok (.iadd, 1) := by decide +kernel
theorem dX7_dead_119 : decode cX7_dead 119 = .ok (.iaload, 1) := by decide +kernel
theorem dX7_dead_120 : decode cX7_dead 120 = .ok (.ireturn, 1) := by decide +kernel
theorem dX7_dead_121 : decode cX7_dead 121 = .ok (.aload_n 0, 1) := by decide +kernel
theorem dX7_dead_122 : decode cX7_dead 122 = .ok (.getfield 7, 3) := by decide +kernel
theorem dX7_dead_125 : decode cX7_dead 125 = .ok (.bipush 48, 2) := by decide +kernel
theorem dX7_dead_127 : decode cX7_dead 127 = .ok (.iload_n 1, 1) := by decide +kernel
theorem dX7_dead_128 : decode cX7_dead 128 = .ok (.iadd, 1) := by decide +kernel
theorem dX7_dead_129 : decode cX7_dead 129 = .ok (.iaload, 1) := by decide +kernel
theorem dX7_dead_130 : decode cX7_dead 130 = .ok (.ireturn, 1) := by decide +kernel
theorem dX7_dead_131 : decode cX7_dead 131 = .ok (.aload_n 0, 1) := by decide +kernel
theorem dX7_dead_132 : decode cX7_dead 132 = .ok (.getfield 7, 3) := by decide +kernel
theorem dX7_dead_135 : decode cX7_dead 135 = .ok (.bipush 56, 2) := by decide +kernel
theorem dX7_dead_137 : decode cX7_dead 137 = .ok (.iload_n 1, 1) := by decide +kernel
theorem dX7_dead_138 : decode cX7_dead 138 = .ok (.iadd, 1) := by decide +kernel
theorem dX7_dead_139 : decode cX7_dead 139 = .ok (.iaload, 1) := by decide +kernel
theorem dX7_dead_140 : decode cX7_dead 140 = .ok (.ireturn, 1) := by decide +kernel
theorem dX7_dead_141 : decode cX7_dead 141 = .ok (.aload_n 0, 1) := by decide +kernel
theorem dX7_dead_142 : decode cX7_dead 142 = .ok (.getfield 7, 3) := by decide +kernel
theorem dX7_dead_145 : decode cX7_dead 145 = .ok (.bipush 64, 2) := by decide +kernel
theorem dX7_dead_147 : decode cX7_dead 147 = .ok (.iload_n 1, 1) := by decide +kernel
theorem dX7_dead_148 : decode cX7_dead 148 = .ok (.iadd, 1) := by decide +kernel
theorem dX7_dead_149 : decode cX7_dead 149 = .ok (.iaload, 1) := by decide +kernel
theorem dX7_dead_150 : decode cX7_dead 150 = .ok (.ireturn, 1) := by decide +kernel
theorem dX7_dead_151 : decode cX7_dead 151 = .ok (.ldc 81, 2) := by decide +kernel
theorem dX7_dead_153 : decode cX7_dead 153 = .ok (.ireturn, 1) := by decide +kernel
theorem dX7_order_0 : decode cX7_order 0 = .ok (.aload_n 0, 1) := by decide +kernel
theorem dX7_order_1 : decode cX7_order 1 = .ok (.iconst 0, 1) := by decide +kernel
theorem dX7_order_2 : decode cX7_order 2 = .ok (.iload_n 1, 1) := by decide +kernel
theorem dX7_order_3 : decode cX7_order 3 = .ok (.invokevirtual 193, 3) := by decide +kernel
theorem dX7_order_6 : decode cX7_order 6 = .ok (.ireturn, 1) := by decide +kernel
theorem dX7_letter_0 : decode cX7_letter 0 = .ok (.aload_n 0, 1) := by decide +kernel
theorem dX7_letter_1 : decode cX7_letter 1 = .ok (.iload_n 1, 1) := by decide +kernel
theorem dX7_letter_2 : decode cX7_letter 2 = .ok (.invokevirtual 190, 3) := by decide +kernel
theorem dX7_letter_5 : decode cX7_letter 5 = .ok (.ifCond .ne 6, 3) := by decide +kernel
theorem dX7_letter_8 : decode cX7_letter 8 = .ok (.ldc 186, 2) := by decide +kernel
theorem dX7_letter_10 : decode cX7_letter 10 = .ok (.ireturn, 1) := by decide +kernel
theorem dX7_letter_11 : decode cX7_letter 11 = .ok (.iload_n 2, 1) := by decide +kernel
theorem dX7_letter_12 : decode cX7_letter 12 = .ok (.i2l, 1) := by decide +kernel
theorem dX7_letter_13 : decode cX7_letter 13 = .ok (.lconst 0, 1) := by decide +kernel
theorem dX7_letter_14 : decode cX7_letter 14 = .ok (.ldc2_w 196, 3) := by decide +kernel
theorem dX7_letter_17 : decode cX7_letter 17 = .ok (.invokestatic 77, 3) := by decide +kernel
theorem dX7_letter_20 : decode cX7_letter 20 = .ok (.ifCond .ne 6, 3) := by decide +kernel
theorem dX7_letter_23 : decode cX7_letter 23 = .ok (.ldc 81, 2) := by decide +kernel
theorem dX7_letter_25 : decode cX7_letter 25 = .ok (.ireturn, 1) := by decide +kernel
theorem dX7_letter_26 : decode cX7_letter 26 = .ok (.aload_n 0, 1) := by decide +kernel
theorem dX7_letter_27 : decode cX7_letter 27 = .ok (.getfield 7, 3) := by decide +kernel
theorem dX7_letter_30 : decode cX7_letter 30 = .ok (.bipush 8, 2) := by decide +kernel
theorem dX7_letter_32 : decode cX7_letter 32 = .ok (.iload_n 1, 1) := by decide +kernel
theorem dX7_letter_33 : decode cX7_letter 33 = .ok (.iadd, 1) := by decide +kernel
theorem dX7_letter_34 : decode cX7_letter 34 = .ok (.iaload, 1) := by decide +kernel
theorem dX7_letter_35 : decode cX7_letter 35 = .ok (.istore_n 3, 1) := by decide +kernel
theorem dX7_letter_36 : decode cX7_letter 36 = .ok (.aload_n 0, 1) := by decide +kernel
theorem dX7_letter_37 : decode cX7_letter 37 = .ok (.getfield 7, 3) := by decide +kernel
theorem dX7_letter_40 : decode cX7_letter 40 = .ok (.bipush 8, 2) := by decide +kernel
theorem dX7_letter_42 : decode cX7_letter 42 = .ok (.iload_n 1, 1) := by decide +kernel
theorem dX7_letter_43 : decode cX7_letter 43 = .ok (.iadd, 1) := by decide +kernel
theorem dX7_letter_44 : decode cX7_letter 44 = .ok (.iload_n 2, 1) := by decide +kernel
theorem dX7_letter_45 : decode cX7_letter 45 = .ok (.iastore, 1) := by decide +kernel
theorem dX7_letter_46 : decode cX7_letter 46 = .ok (.iload_n 3, 1) := by decide +kernel
theorem dX7_letter_47 : decode cX7_letter 47 = .ok (.ireturn, 1) := by decide +kernel
theorem dX7_gift_0 : decode cX7_gift 0 = .ok (.aload_n 0, 1) := by decide +kernel
theorem dX7_gift_1 : decode cX7_gift 1 = .ok (.iload_n 1, 1) := by decide +kernel
theorem dX7_gift_2 : decode cX7_gift 2 = .ok (.invokevirtual 190, 3) := by decide +kernel
theorem dX7_gift_5 : decode cX7_gift 5 = .ok (.ifCond .ne 6, 3) := by decide +kernel
theorem dX7_gift_8 : decode cX7_gift 8 = .ok (.ldc 186, 2) := by decide +kernel
end
section
theorem dX7_gift_10 : decode cX7_gift 10 = .ok (.ireturn, 1) := by decide +kernel
theorem dX7_gift_11 : decode cX7_gift 11 = .ok (.iload_n 2, 1) := by decide +kernel
theorem dX7_gift_12 : decode cX7_gift 12 = .ok (.i2l, 1) := by decide +kernel
theorem dX7_gift_13 : decode cX7_gift 13 = .ok (.lconst 1, 1) := by decide +kernel
theorem dX7_gift_14 : decode cX7_gift 14 = .ok (.ldc2_w 198, 3) := by decide +kernel
theorem dX7_gift_17 : decode cX7_gift 17 = .ok (.invokestatic 77, 3) := by decide +kernel
theorem dX7_gift_20 : decode cX7_gift 20 = .ok (.ifCond .ne 6, 3) := by decide +kernel
theorem dX7_gift_23 : decode cX7_gift 23 = .ok (.ldc 81, 2) := by decide +kernel
theorem dX7_gift_25 : decode cX7_gift 25 = .ok (.ireturn, 1) := by decide +kernel
theorem dX7_gift_26 : decode cX7_gift 26 = .ok (.aload_n 0, 1) := by decide +kernel
theorem dX7_gift_27 : decode cX7_gift 27 = .ok (.iconst 0, 1) := by decide +kernel
theorem dX7_gift_28 : decode cX7_gift 28 = .ok (.iload_n 1, 1) := by decide +kernel
theorem dX7_gift_29 : decode cX7_gift 29 = .ok (.invokevirtual 154, 3) := by decide +kernel
theorem dX7_gift_32 : decode cX7_gift 32 = .ok (.ifCond .ne 6, 3) := by decide +kernel
theorem dX7_gift_35 : decode cX7_gift 35 = .ok (.ldc 200, 2) := by decide +kernel
theorem dX7_gift_37 : decode cX7_gift 37 = .ok (.ireturn, 1) := by decide +kernel
theorem dX7_gift_38 : decode cX7_gift 38 = .ok (.aload_n 0, 1) := by decide +kernel
theorem dX7_gift_39 : decode cX7_gift 39 = .ok (.getfield 7, 3) := by decide +kernel
theorem dX7_gift_42 : decode cX7_gift 42 = .ok (.bipush 24, 2) := by decide +kernel
theorem dX7_gift_44 : decode cX7_gift 44 = .ok (.iload_n 1, 1) := by decide +kernel
theorem dX7_gift_45 : decode cX7_gift 45 = .ok (.iadd, 1) := by decide +kernel
theorem dX7_gift_46 : decode cX7_gift 46 = .ok (.aload_n 0, 1) := by decide +kernel
theorem dX7_gift_47 : decode cX7_gift 47 = .ok (.getfield 7, 3) := by decide +kernel
theorem dX7_gift_50 : decode cX7_gift 50 = .ok (.bipush 24, 2) := by decide +kernel
theorem dX7_gift_52 : decode cX7_gift 52 = .ok (.iload_n 1, 1) := by decide +kernel
theorem dX7_gift_53 : decode cX7_gift 53 = .ok (.iadd, 1) := by decide +kernel
theorem dX7_gift_54 : decode cX7_gift 54 = .ok (.iaload, 1) := by decide +kernel
theorem dX7_gift_55 : decode cX7_gift 55 = .ok (.iload_n 2, 1) := by decide +kernel
theorem dX7_gift_56 : decode cX7_gift 56 = .ok (.iadd, 1) := by decide +kernel
theorem dX7_gift_57 : decode cX7_gift 57 = .ok (.sipush 9999, 3) := by decide +kernel
theorem dX7_gift_60 : decode cX7_gift 60 = .ok (.if_icmp .le 9, 3) := by decide +kernel
theorem dX7_gift_63 : decode cX7_gift 63 = .ok (.sipush 9999, 3) := by decide +kernel
theorem dX7_gift_66 : decode cX7_gift 66 = .ok (.goto 14, 3) := by decide +kernel
theorem dX7_gift_69 : decode cX7_gift 69 = .ok (.aload_n 0, 1) := by decide +kernel
theorem dX7_gift_70 : decode cX7_gift 70 = .ok (.getfield 7, 3) := by decide +kernel
theorem dX7_gift_73 : decode cX7_gift 73 = .ok (.bipush 24, 2) := by decide +kernel
theorem dX7_gift_75 : decode cX7_gift 75 = .ok (.iload_n 1, 1) := by decide +kernel
theorem dX7_gift_76 : decode cX7_gift 76 = .ok (.iadd, 1) := by decide +kernel
theorem dX7_gift_77 : decode cX7_gift 77 = .ok (.iaload, 1) := by decide +kernel
theorem dX7_gift_78 : decode cX7_gift 78 = .ok (.iload_n 2, 1) := by decide +kernel
theorem dX7_gift_79 : decode cX7_gift 79 = .ok (.iadd, 1) := by decide +kernel
theorem dX7_gift_80 : decode cX7_gift 80 = .ok (.iastore, 1) := by decide +kernel
theorem dX7_gift_81 : decode cX7_gift 81 = .ok (.aload_n 0, 1) := by decide +kernel
theorem dX7_gift_82 : decode cX7_gift 82 = .ok (.getfield 7, 3) := by decide +kernel
theorem dX7_gift_85 : decode cX7_gift 85 = .ok (.bipush 24, 2) := by decide +kernel
theorem dX7_gift_87 : decode cX7_gift 87 = .ok (.iload_n 1, 1) := by decide +kernel
theorem dX7_gift_88 : decode cX7_gift 88 = .ok (.iadd, 1) := by decide +kernel
theorem dX7_gift_89 : decode cX7_gift 89 = .ok (.iaload, 1) := by decide +kernel
theorem dX7_gift_90 : decode cX7_gift 90 = .ok (.ireturn, 1) := by decide +kernel
theorem dX7_knock_0 : decode cX7_knock 0 = .ok (.aload_n 0, 1) := by decide +kernel
theorem dX7_knock_1 : decode cX7_knock 1 = .ok (.iload_n 1, 1) := by decide +kernel
theorem dX7_knock_2 : decode cX7_knock 2 = .ok (.invokevirtual 190, 3) := by decide +kernel
theorem dX7_knock_5 : decode cX7_knock 5 = .ok (.ifCond .ne 6, 3) := by decide +kernel
theorem dX7_knock_8 : decode cX7_knock 8 = .ok (.ldc 186, 2) := by decide +kernel
theorem dX7_knock_10 : decode cX7_knock 10 = .ok (.ireturn, 1) := by decide +kernel
theorem dX7_knock_11 : decode cX7_knock 11 = .ok (.aload_n 0, 1) := by decide +kernel
theorem dX7_knock_12 : decode cX7_knock 12 = .ok (.iconst 0, 1) := by decide +kernel
theorem dX7_knock_13 : decode cX7_knock 13 = .ok (.iload_n 1, 1) := by decide +kernel
theorem dX7_knock_14 : decode cX7_knock 14 = .ok (.invokevirtual 154, 3) := by decide +kernel
theorem dX7_knock_17 : decode cX7_knock 17 = .ok (.ifCond .ne 6, 3) := by decide +kernel
theorem dX7_knock_20 : decode cX7_knock 20 = .ok (.ldc 200, 2) := by decide +kernel
theorem dX7_knock_22 : decode cX7_knock 22 = .ok (.ireturn, 1) := by decide +kernel
theorem dX7_knock_23 : decode cX7_knock 23 = .ok (.aload_n 0, 1) := by decide +kernel
theorem dX7_knock_24 : decode cX7_knock 24 = .ok (.iconst 0, 1) := by decide +kernel
theorem dX7_knock_25 : decode cX7_knock 25 = .ok (.iload_n 1, 1) := by decide +kernel
theorem dX7_knock_26 : decode cX7_knock 26 = .ok (.invokevirtual 172, 3) := by decide +kernel
theorem dX7_knock_29 : decode cX7_knock 29 = .ok (.istore_n 2, 1) := by decide +kernel
theorem dX7_knock_30 : decode cX7_knock 30 = .ok (.aload_n 0, 1) := by decide +kernel
theorem dX7_knock_31 : decode cX7_knock 31 = .ok (.getfield 7, 3) := by decide +kernel
theorem dX7_knock_34 : decode cX7_knock 34 = .ok (.bipush 48, 2) := by decide +kernel
theorem dX7_knock_36 : decode cX7_knock 36 = .ok (.iload_n 1, 1) := by decide +kernel
theorem dX7_knock_37 : decode cX7_knock 37 = .ok (.iadd, 1) := by decide +kernel
theorem dX7_knock_38 : decode cX7_knock 38 = .ok (.iconst 1, 1) := by decide +kernel
theorem dX7_knock_39 : decode cX7_knock 39 = .ok (.iastore, 1) := by decide +kernel
theorem dX7_knock_40 : decode cX7_knock 40 = .ok (.iload_n 2, 1) := by decide +kernel
theorem dX7_knock_41 : decode cX7_knock 41 = .ok (.ireturn, 1) := by decide +kernel
theorem dX7_rate_0 : decode cX7_rate 0 = .ok (.iload_n 1, 1) := by decide +kernel
theorem dX7_rate_1 : decode cX7_rate 1 = .ok (.aload_n 0, 1) := by decide +kernel
theorem dX7_rate_2 : decode cX7_rate 2 = .ok (.getfield 17, 3) := by decide +kernel
theorem dX7_rate_5 : decode cX7_rate 5 = .ok (.imul, 1) := by decide +kernel
theorem dX7_rate_6 : decode cX7_rate 6 = .ok (.aload_n 0, 1) := by decide +kernel
theorem dX7_rate_7 : decode cX7_rate 7 = .ok (.getfield 21, 3) := by decide +kernel
theorem dX7_rate_10 : decode cX7_rate 10 = .ok (.iload_n 2, 1) := by decide +kernel
theorem dX7_rate_11 : decode cX7_rate 11 = .ok (.imul, 1) := by decide +kernel
theorem dX7_rate_12 : decode cX7_rate 12 = .ok (.isub, 1) := by decide +kernel
theorem dX7_rate_13 : decode cX7_rate 13 = .ok (.istore_n 3, 1) := by decide +kernel
theorem dX7_rate_14 : decode cX7_rate 14 = .ok (.iload_n 3, 1) := by decide +kernel
theorem dX7_rate_15 : decode cX7_rate 15 = .ok (.ifCond .le 7, 3) := by decide +kernel
theorem dX7_rate_18 : decode cX7_rate 18 = .ok (.iload_n 3, 1) := by decide +kernel
theorem dX7_rate_19 : decode cX7_rate 19 = .ok (.goto 4, 3) := by decide +kernel
theorem dX7_rate_22 : decode cX7_rate 22 = .ok (.iconst 0, 1) := by decide +kernel
theorem dX7_rate_23 : decode cX7_rate 23 = .ok (.ireturn, 1) := by decide +kernel
theorem dX7_pass_0 : decode cX7_pass 0 = .ok (.iconst 0, 1) := by decide +kernel
theorem dX7_pass_1 : decode cX7_pass 1 = .ok (.istore_n 2, 1) := by decide +kernel
theorem dX7_pass_2 : decode cX7_pass 2 = .ok (.iload_n 2, 1) := by decide +kernel
theorem dX7_pass_3 : decode cX7_pass 3 = .ok (.aload_n 0, 1) := by decide +kernel
theorem dX7_pass_4 : decode cX7_pass 4 = .ok (.getfield 36, 3) := by decide +kernel
theorem dX7_pass_7 : decode cX7_pass 7 = .ok (.iconst 0, 1) := by decide +kernel
theorem dX7_pass_8 : decode cX7_pass 8 = .ok (.iaload, 1) := by decide +kernel
theorem dX7_pass_9 : decode cX7_pass 9 = .ok (.if_icmp .ge 95, 3) := by decide +kernel
theorem dX7_pass_12 : decode cX7_pass 12 = .ok (.iload_n 1, 1) := by decide +kernel
theorem dX7_pass_13 : decode cX7_pass 13 = .ok (.ifCond .le 44, 3) := by decide +kernel
theorem dX7_pass_16 : decode cX7_pass 16 = .ok (.aload_n 0, 1) := by decide +kernel
theorem dX7_pass_17 : decode cX7_pass 17 = .ok (.getfield 7, 3) := by decide +kernel
theorem dX7_pass_20 : decode cX7_pass 20 = .ok (.iload_n 2, 1) := by decide +kernel
theorem dX7_pass_21 : decode cX7_pass 21 = .ok (.aload_n 0, 1) := by decide +kernel
theorem dX7_pass_22 : decode cX7_pass 22 = .ok (.getfield 7, 3) := by decide +kernel
theorem dX7_pass_25 : decode cX7_pass 25 = .ok (.iload_n 2, 1) := by decide +kernel
theorem dX7_pass_26 : decode cX7_pass 26 = .ok (.iaload, 1) := by decide +kernel
theorem dX7_pass_27 : decode cX7_pass 27 = .ok (.aload_n 0, 1) := by decide +kernel
theorem dX7_pass_28 : decode cX7_pass 28 = .ok (.iload_n 1, 1) := by decide +kernel
theorem dX7_pass_29 : decode cX7_pass 29 = .ok (.iload_n 2, 1) := by decide +kernel
theorem dX7_pass_30 : decode cX7_pass 30 = .ok (.invokevirtual 201, 3) := by decide +kernel
theorem dX7_pass_33 : decode cX7_pass 33 = .ok (.if_icmp .le 19, 3) := by decide +kernel
theorem dX7_pass_36 : decode cX7_pass 36 = .ok (.aload_n 0, 1) := by decide +kernel
theorem dX7_pass_37 : decode cX7_pass 37 = .ok (.getfield 7, 3) := by decide +kernel
theorem dX7_pass_40 : decode cX7_pass 40 = .ok (.iload_n 2, 1) := by decide +kernel
theorem dX7_pass_41 : decode cX7_pass 41 = .ok (.iaload, 1) := by decide +kernel
theorem dX7_pass_42 : decode cX7_pass 42 = .ok (.aload_n 0, 1) := by decide +kernel
theorem dX7_pass_43 : decode cX7_pass 43 = .ok (.iload_n 1, 1) := by decide +kernel
theorem dX7_pass_44 : decode cX7_pass 44 = .ok (.iload_n 2, 1) := by decide +kernel
theorem dX7_pass_45 : decode cX7_pass 45 = .ok (.invokevirtual 201, 3) := by decide +kernel
theorem dX7_pass_48 : decode cX7_pass 48 = .ok (.isub, 1) := by decide +kernel
theorem dX7_pass_49 : decode cX7_pass 49 = .ok (.goto 4, 3) := by decide +kernel
theorem dX7_pass_52 : decode cX7_pass 52 = .ok (.iconst 0, 1) := by decide +kernel
theorem dX7_pass_53 : decode cX7_pass 53 = .ok (.iastore, 1) := by decide +kernel
theorem dX7_pass_54 : decode cX7_pass 54 = .ok (.goto 44, 3) := by decide +kernel
theorem dX7_pass_57 : decode cX7_pass 57 = .ok (.aload_n 0, 1) := by decide +kernel
theorem dX7_pass_58 : decode cX7_pass 58 = .ok (.iconst 0, 1) := by decide +kernel
theorem dX7_pass_59 : decode cX7_pass 59 = .ok (.iload_n 2, 1) := by decide +kernel
theorem dX7_pass_60 : decode cX7_pass 60 = .ok (.invokevirtual 187, 3) := by decide +kernel
theorem dX7_pass_63 : decode cX7_pass 63 = .ok (.ifCond .ge 35, 3) := by decide +kernel
theorem dX7_pass_66 : decode cX7_pass 66 = .ok (.aload_n 0, 1) := by decide +kernel
theorem dX7_pass_67 : decode cX7_pass 67 = .ok (.getfield 7, 3) := by decide +kernel
theorem dX7_pass_70 : decode cX7_pass 70 = .ok (.iload_n 2, 1) := by decide +kernel
theorem dX7_pass_71 : decode cX7_pass 71 = .ok (.aload_n 0, 1) := by decide +kernel
theorem dX7_pass_72 : decode cX7_pass 72 = .ok (.getfield 7, 3) := by decide +kernel
theorem dX7_pass_75 : decode cX7_pass 75 = .ok (.iload_n 2, 1) := by decide +kernel
theorem dX7_pass_76 : decode cX7_pass 76 = .ok (.iaload, 1) := by decide +kernel
theorem dX7_pass_77 : decode cX7_pass 77 = .ok (.iload_n 1, 1) := by decide +kernel
theorem dX7_pass_78 : decode cX7_pass 78 = .ok (.isub, 1) := by decide +kernel
theorem dX7_pass_79 : decode cX7_pass 79 = .ok (.bipush 99, 2) := by decide +kernel
theorem dX7_pass_81 : decode cX7_pass 81 = .ok (.if_icmp .le 8, 3) := by decide +kernel
theorem dX7_pass_84 : decode cX7_pass 84 = .ok (.bipush 99, 2) := by decide +kernel
theorem dX7_pass_86 : decode cX7_pass 86 = .ok (.goto 11, 3) := by decide +kernel
theorem dX7_pass_89 : decode cX7_pass 89 = .ok (.aload_n 0, 1) := by decide +kernel
theorem dX7_pass_90 : decode cX7_pass 90 = .ok (.getfield 7, 3) := by decide +kernel
theorem dX7_pass_93 : decode cX7_pass 93 = .ok (.iload_n 2, 1) := by decide +kernel
theorem dX7_pass_94 : decode cX7_pass 94 = .ok (.iaload, 1) := by decide +kernel
theorem dX7_pass_95 : decode cX7_pass 95 = .ok (.iload_n 1, 1) := by decide +kernel
theorem dX7_pass_96 : decode cX7_pass 96 = .ok (.isub, 1) := by decide +kernel
theorem dX7_pass_97 : decode cX7_pass 97 = .ok (.iastore, 1) := by decide +kernel
theorem dX7_pass_98 : decode cX7_pass 98 = .ok (.iinc 2 1, 3) := by decide +kernel
theorem dX7_pass_101 : decode cX7_pass 101 = .ok (.goto (-99), 3) := by decide +kernel
theorem dX7_pass_104 : decode cX7_pass 104 = .ok (.iconst 0, 1) := by decide +kernel
theorem dX7_pass_105 : decode cX7_pass 105 = .ok (.istore_n 2, 1) := by decide +kernel
theorem dX7_pass_106 : decode cX7_pass 106 = .ok (.iload_n 2, 1) := by decide +kernel
theorem dX7_pass_107 : decode cX7_pass 107 = .ok (.aload_n 0, 1) := by decide +kernel
theorem dX7_pass_108 : decode cX7_pass 108 = .ok (.getfield 36, 3) := by decide +kernel
theorem dX7_pass_111 : decode cX7_pass 111 = .ok (.iconst 1, 1) := by decide +kernel
theorem dX7_pass_112 : decode cX7_pass 112 = .ok (.iaload, 1) := by decide +kernel
theorem dX7_pass_113 : decode cX7_pass 113 = .ok (.if_icmp .ge 53, 3) := by decide +kernel
theorem dX7_pass_116 : decode cX7_pass 116 = .ok (.aload_n 0, 1) := by decide +kernel
theorem dX7_pass_117 : decode cX7_pass 117 = .ok (.getfield 7, 3) := by decide +kernel
theorem dX7_pass_120 : decode cX7_pass 120 = .ok (.bipush 16, 2) := by decide +kernel
theorem dX7_pass_122 : decode cX7_pass 122 = .ok (.iload_n 2, 1) := by decide +kernel
theorem dX7_pass_123 : decode cX7_pass 123 = .ok (.iadd, 1) := by decide +kernel
theorem dX7_pass_124 : decode cX7_pass 124 = .ok (.dup2, 1) := by decide +kernel
theorem dX7_pass_125 : decode cX7_pass 125 = .ok (.iaload, 1) := by decide +kernel
theorem dX7_pass_126 : decode cX7_pass 126 = .ok (.aload_n 0, 1) := by decide +kernel
theorem dX7_pass_127 : decode cX7_pass 127 = .ok (.iconst 0, 1) := by decide +kernel
theorem dX7_pass_128 : decode cX7_pass 128 = .ok (.iload_n 2, 1) := by decide +kernel
theorem dX7_pass_129 : decode cX7_pass 129 = .ok (.invokevirtual 154, 3) := by decide +kernel
theorem dX7_pass_132 : decode cX7_pass 132 = .ok (.ifCond .eq 22, 3) := by decide +kernel
theorem dX7_pass_135 : decode cX7_pass 135 = .ok (.aload_n 0, 1) := by decide +kernel
theorem dX7_pass_136 : decode cX7_pass 136 = .ok (.getfield 7, 3) := by decide +kernel
theorem dX7_pass_139 : decode cX7_pass 139 = .ok (.bipush 16, 2) := by decide +kernel
theorem dX7_pass_141 : decode cX7_pass 141 = .ok (.iload_n 2, 1) := by decide +kernel
theorem dX7_pass_142 : decode cX7_pass 142 = .ok (.iadd, 1) := by decide +kernel
theorem dX7_pass_143 : decode cX7_pass 143 = .ok (.iaload, 1) := by decide +kernel
theorem dX7_pass_144 : decode cX7_pass 144 = .ok (.sipush 9999, 3) := by decide +kernel
theorem dX7_pass_147 : decode cX7_pass 147 = .ok (.if_icmp .ge 7, 3) := by decide +kernel
theorem dX7_pass_150 : decode cX7_pass 150 = .ok (.iconst 1, 1) := by decide +kernel
theorem dX7_pass_151 : decode cX7_pass 151 = .ok (.goto 4, 3) := by decide +kernel
theorem dX7_pass_154 : decode cX7_pass 154 = .ok (.iconst 0, 1) := by decide +kernel
theorem dX7_pass_155 : decode cX7_pass 155 = .ok (.invokestatic 157, 3) := by decide +kernel
theorem dX7_pass_158 : decode cX7_pass 158 = .ok (.iadd, 1) := by decide +kernel
theorem dX7_pass_159 : decode cX7_pass 159 = .ok (.iastore, 1) := by decide +kernel
theorem dX7_pass_160 : decode cX7_pass 160 = .ok (.iinc 2 1, 3) := by decide +kernel
theorem dX7_pass_163 : decode cX7_pass 163 = .ok (.goto (-57), 3) := by decide +kernel
theorem dX7_pass_166 : decode cX7_pass 166 = .ok (.return_, 1) := by decide +kernel
theorem dX7_softYards_0 : decode cX7_softYards 0 = .ok (.iconst 0, 1) := by decide +kernel
theorem dX7_softYards_1 : decode cX7_softYards 1 = .ok (.istore_n 1, 1) := by decide +kernel
theorem dX7_softYards_2 : decode cX7_softYards 2 = .ok (.iconst 0, 1) := by decide +kernel
theorem dX7_softYards_3 : decode cX7_softYards 3 = .ok (.istore_n 2, 1) := by decide +kernel
theorem dX7_softYards_4 : decode cX7_softYards 4 = .ok (.iload_n 2, 1) := by decide +kernel
theorem dX7_softYards_5 : decode cX7_softYards 5 = .ok (.aload_n 0, 1) := by decide +kernel
theorem dX7_softYards_6 : decode cX7_softYards 6 = .ok (.getfield 36, 3) := by decide +kernel
theorem dX7_softYards_9 : decode cX7_softYards 9 = .ok (.iconst 0, 1) := by decide +kernel
theorem dX7_softYards_10 : decode cX7_softYards 10 = .ok (.iaload, 1) := by decide +kernel
theorem dX7_softYards_11 : decode cX7_softYards 11 = .ok (.if_icmp .ge 31, 3) := by decide +kernel
theorem dX7_softYards_14 : decode cX7_softYards 14 = .ok (.iload_n 1, 1) := by decide +kernel
theorem dX7_softYards_15 : decode cX7_softYards 15 = .ok (.aload_n 0, 1) := by decide +kernel
theorem dX7_softYards_16 : decode cX7_softYards 16 = .ok (.getfield 7, 3) := by decide +kernel
theorem dX7_softYards_19 : decode cX7_softYards 19 = .ok (.iload_n 2, 1) := by decide +kernel
theorem dX7_softYards_20 : decode cX7_softYards 20 = .ok (.iaload, 1) := by decide +kernel
theorem dX7_softYards_21 : decode cX7_softYards 21 = .ok (.ifCond .ne 7, 3) := by decide +kernel
theorem dX7_softYards_24 : decode cX7_softYards 24 = .ok (.iconst 1, 1) := by decide +kernel
theorem dX7_softYards_25 : decode cX7_softYards 25 = .ok (.goto 4, 3) := by decide +kernel
theorem dX7_softYards_28 : decode cX7_softYards 28 = .ok (.iconst 0, 1) := by decide +kernel
theorem dX7_softYards_29 : decode cX7_softYards 29 = .ok (.invokestatic 157, 3) := by decide +kernel
theorem dX7_softYards_32 : decode cX7_softYards 32 = .ok (.iload_n 2, 1) := by decide +kernel
theorem dX7_softYards_33 : decode cX7_softYards 33 = .ok (.ishl, 1) := by decide +kernel
theorem dX7_softYards_34 : decode cX7_softYards 34 = .ok (.ior, 1) := by decide +kernel
theorem dX7_softYards_35 : decode cX7_softYards 35 = .ok (.istore_n 1, 1) := by decide +kernel
theorem dX7_softYards_36 : decode cX7_softYards 36 = .ok (.iinc 2 1, 3) := by decide +kernel
theorem dX7_softYards_39 : decode cX7_softYards 39 = .ok (.goto (-35), 3) := by decide +kernel
theorem dX7_softYards_42 : decode cX7_softYards 42 = .ok (.iload_n 1, 1) := by decide +kernel
theorem dX7_softYards_43 : decode cX7_softYards 43 = .ok (.ireturn, 1) := by decide +kernel
theorem dX7_day_0 : decode cX7_day 0 = .ok (.iload_n 1, 1) := by decide +kernel
theorem dX7_day_1 : decode cX7_day 1 = .ok (.i2l, 1) := by decide +kernel
theorem dX7_day_2 : decode cX7_day 2 = .ok (.ldc2_w 204, 3) := by decide +kernel
theorem dX7_day_5 : decode cX7_day 5 = .ok (.ldc2_w 206, 3) := by decide +kernel
theorem dX7_day_8 : decode cX7_day 8 = .ok (.invokestatic 77, 3) := by decide +kernel
theorem dX7_day_11 : decode cX7_day 11 = .ok (.ifCond .ne 6, 3) := by decide +kernel
theorem dX7_day_14 : decode cX7_day 14 = .ok (.ldc 81, 2) := by decide +kernel
theorem dX7_day_16 : decode cX7_day 16 = .ok (.ireturn, 1) := by decide +kernel
theorem dX7_day_17 : decode cX7_day 17 = .ok (.aload_n 0, 1) := by decide +kernel
theorem dX7_day_18 : decode cX7_day 18 = .ok (.iload_n 1, 1) := by decide +kernel
theorem dX7_day_19 : decode cX7_day 19 = .ok (.invokevirtual 208, 3) := by decide +kernel
theorem dX7_day_22 : decode cX7_day 22 = .ok (.aload_n 0, 1) := by decide +kernel
theorem dX7_day_23 : decode cX7_day 23 = .ok (.invokevirtual 212, 3) := by decide +kernel
theorem dX7_day_26 : decode cX7_day 26 = .ok (.ireturn, 1) := by decide +kernel
theorem dX7_draw_0 : decode cX7_draw 0 = .ok (.aload_n 0, 1) := by decide +kernel
theorem dX7_draw_1 : decode cX7_draw 1 = .ok (.getfield 7, 3) := by decide +kernel
theorem dX7_draw_4 : decode cX7_draw 4 = .ok (.bipush 73, 2) := by decide +kernel
theorem dX7_draw_6 : decode cX7_draw 6 = .ok (.aload_n 0, 1) := by decide +kernel
theorem dX7_draw_7 : decode cX7_draw 7 = .ok (.getfield 7, 3) := by decide +kernel
theorem dX7_draw_10 : decode cX7_draw 10 = .ok (.bipush 73, 2) := by decide +kernel
theorem dX7_draw_12 : decode cX7_draw 12 = .ok (.iaload, 1) := by decide +kernel
theorem dX7_draw_13 : decode cX7_draw 13 = .ok (.i2l, 1) := by decide +kernel
theorem dX7_draw_14 : decode cX7_draw 14 = .ok (.ldc2_w 215, 3) := by decide +kernel
theorem dX7_draw_17 : decode cX7_draw 17 = .ok (.lmul, 1) := by decide +kernel
theorem dX7_draw_18 : decode cX7_draw 18 = .ok (.ldc2_w 217, 3) := by decide +kernel
theorem dX7_draw_21 : decode cX7_draw 21 = .ok (.ladd, 1) := by decide +kernel
theorem dX7_draw_22 : decode cX7_draw 22 = .ok (.ldc2_w 219, 3) := by decide +kernel
theorem dX7_draw_25 : decode cX7_draw 25 = .ok (.lrem, 1) := by decide +kernel
theorem dX7_draw_26 : decode cX7_draw 26 = .ok (.l2i, 1) := by decide +kernel
theorem dX7_draw_27 : decode cX7_draw 27 = .ok (.iastore, 1) := by decide +kernel
theorem dX7_draw_28 : decode cX7_draw 28 = .ok (.aload_n 0, 1) := by decide +kernel
theorem dX7_draw_29 : decode cX7_draw 29 = .ok (.getfield 7, 3) := by decide +kernel
theorem dX7_draw_32 : decode cX7_draw 32 = .ok (.bipush 73, 2) := by decide +kernel
theorem dX7_draw_34 : decode cX7_draw 34 = .ok (.iaload, 1) := by decide +kernel
theorem dX7_draw_35 : decode cX7_draw 35 = .ok (.ldc 221, 2) := by decide +kernel
theorem dX7_draw_37 : decode cX7_draw 37 = .ok (.idiv, 1) := by decide +kernel
theorem dX7_draw_38 : decode cX7_draw 38 = .ok (.iload_n 1, 1) := by decide +kernel
theorem dX7_draw_39 : decode cX7_draw 39 = .ok (.irem, 1) := by decide +kernel
theorem dX7_draw_40 : decode cX7_draw 40 = .ok (.ireturn, 1) := by decide +kernel
theorem dX7_gnaw_0 : decode cX7_gnaw 0 = .ok (.iconst 0, 1) := by decide +kernel
theorem dX7_gnaw_1 : decode cX7_gnaw 1 = .ok (.istore_n 2, 1) := by decide +kernel
theorem dX7_gnaw_2 : decode cX7_gnaw 2 = .ok (.iload_n 2, 1) := by decide +kernel
theorem dX7_gnaw_3 : decode cX7_gnaw 3 = .ok (.aload_n 0, 1) := by decide +kernel
theorem dX7_gnaw_4 : decode cX7_gnaw 4 = .ok (.getfield 36, 3) := by decide +kernel
theorem dX7_gnaw_7 : decode cX7_gnaw 7 = .ok (.iconst 1, 1) := by decide +kernel
theorem dX7_gnaw_8 : decode cX7_gnaw 8 = .ok (.iaload, 1) := by decide +kernel
theorem dX7_gnaw_9 : decode cX7_gnaw 9 = .ok (.if_icmp .ge 53, 3) := by decide +kernel
theorem dX7_gnaw_12 : decode cX7_gnaw 12 = .ok (.aload_n 0, 1) := by decide +kernel
theorem dX7_gnaw_13 : decode cX7_gnaw 13 = .ok (.iconst 0, 1) := by decide +kernel
theorem dX7_gnaw_14 : decode cX7_gnaw 14 = .ok (.iload_n 2, 1) := by decide +kernel
theorem dX7_gnaw_15 : decode cX7_gnaw 15 = .ok (.invokevirtual 154, 3) := by decide +kernel
theorem dX7_gnaw_18 : decode cX7_gnaw 18 = .ok (.ifCond .eq 38, 3) := by decide +kernel
theorem dX7_gnaw_21 : decode cX7_gnaw 21 = .ok (.aload_n 0, 1) := by decide +kernel
theorem dX7_gnaw_22 : decode cX7_gnaw 22 = .ok (.bipush 10, 2) := by decide +kernel
theorem dX7_gnaw_24 : decode cX7_gnaw 24 = .ok (.invokevirtual 222, 3) := by decide +kernel
theorem dX7_gnaw_27 : decode cX7_gnaw 27 = .ok (.iload_n 1, 1) := by decide +kernel
theorem dX7_gnaw_28 : decode cX7_gnaw 28 = .ok (.if_icmp .ge 28, 3) := by decide +kernel
theorem dX7_gnaw_31 : decode cX7_gnaw 31 = .ok (.aload_n 0, 1) := by decide +kernel
theorem dX7_gnaw_32 : decode cX7_gnaw 32 = .ok (.getfield 7, 3) := by decide +kernel
theorem dX7_gnaw_35 : decode cX7_gnaw 35 = .ok (.bipush 32, 2) := by decide +kernel
theorem dX7_gnaw_37 : decode cX7_gnaw 37 = .ok (.iload_n 2, 1) := by decide +kernel
theorem dX7_gnaw_38 : decode cX7_gnaw 38 = .ok (.iadd, 1) := by decide +kernel
theorem dX7_gnaw_39 : decode cX7_gnaw 39 = .ok (.iaload, 1) := by decide +kernel
theorem dX7_gnaw_40 : decode cX7_gnaw 40 = .ok (.ifCond .le 16, 3) := by decide +kernel
theorem dX7_gnaw_43 : decode cX7_gnaw 43 = .ok (.aload_n 0, 1) := by decide +kernel
theorem dX7_gnaw_44 : decode cX7_gnaw 44 = .ok (.getfield 7, 3) := by decide +kernel
theorem dX7_gnaw_47 : decode cX7_gnaw 47 = .ok (.bipush 32, 2) := by decide +kernel
theorem dX7_gnaw_49 : decode cX7_gnaw 49 = .ok (.iload_n 2, 1) := by decide +kernel
theorem dX7_gnaw_50 : decode cX7_gnaw 50 = .ok (.iadd, 1) := by decide +kernel
theorem dX7_gnaw_51 : decode cX7_gnaw 51 = .ok (.dup2, 1) := by decide +kernel
theorem dX7_gnaw_52 : decode cX7_gnaw 52 = .ok (.iaload, 1) := by decide +kernel
theorem dX7_gnaw_53 : decode cX7_gnaw 53 = .ok (.iconst 1, 1) := by decide +kernel
theorem dX7_gnaw_54 : decode cX7_gnaw 54 = .ok (.isub, 1) := by decide +kernel
theorem dX7_gnaw_55 : decode cX7_gnaw 55 = .ok (.iastore, 1) := by decide +kernel
theorem dX7_gnaw_56 : decode cX7_gnaw 56 = .ok (.iinc 2 1, 3) := by decide +kernel
theorem dX7_gnaw_59 : decode cX7_gnaw 59 = .ok (.goto (-57), 3) := by decide +kernel
theorem dX7_gnaw_62 : decode cX7_gnaw 62 = .ok (.return_, 1) := by decide +kernel
theorem dX7_rats_0 : decode cX7_rats 0 = .ok (.iload_n 1, 1) := by decide +kernel
theorem dX7_rats_1 : decode cX7_rats 1 = .ok (.i2l, 1) := by decide +kernel
theorem dX7_rats_2 : decode cX7_rats 2 = .ok (.lconst 1, 1) := by decide +kernel
theorem dX7_rats_3 : decode cX7_rats 3 = .ok (.ldc2_w 196, 3) := by decide +kernel
theorem dX7_rats_6 : decode cX7_rats 6 = .ok (.invokestatic 77, 3) := by decide +kernel
theorem dX7_rats_9 : decode cX7_rats 9 = .ok (.ifCond .eq 15, 3) := by decide +kernel
theorem dX7_rats_12 : decode cX7_rats 12 = .ok (.iload_n 2, 1) := by decide +kernel
theorem dX7_rats_13 : decode cX7_rats 13 = .ok (.i2l, 1) := by decide +kernel
theorem dX7_rats_14 : decode cX7_rats 14 = .ok (.lconst 0, 1) := by decide +kernel
theorem dX7_rats_15 : decode cX7_rats 15 = .ok (.ldc2_w 225, 3) := by decide +kernel
theorem dX7_rats_18 : decode cX7_rats 18 = .ok (.invokestatic 77, 3) := by decide +kernel
theorem dX7_rats_21 : decode cX7_rats 21 = .ok (.ifCond .ne 6, 3) := by decide +kernel
theorem dX7_rats_24 : decode cX7_rats 24 = .ok (.ldc 81, 2) := by decide +kernel
theorem dX7_rats_26 : decode cX7_rats 26 = .ok (.ireturn, 1) := by decide +kernel
theorem dX7_rats_27 : decode cX7_rats 27 = .ok (.iconst 0, 1) := by decide +kernel
theorem dX7_rats_28 : decode cX7_rats 28 = .ok (.istore_n 3, 1) := by decide +kernel
theorem dX7_rats_29 : decode cX7_rats 29 = .ok (.iload_n 3, 1) := by decide +kernel
theorem dX7_rats_30 : decode cX7_rats 30 = .ok (.iload_n 1, 1) := by decide +kernel
theorem dX7_rats_31 : decode cX7_rats 31 = .ok (.if_icmp .ge 14, 3) := by decide +kernel
theorem dX7_rats_34 : decode cX7_rats 34 = .ok (.aload_n 0, 1) := by decide +kernel
theorem dX7_rats_35 : decode cX7_rats 35 = .ok (.iload_n 2, 1) := by decide +kernel
theorem dX7_rats_36 : decode cX7_rats 36 = .ok (.invokevirtual 227, 3) := by decide +kernel
theorem dX7_rats_39 : decode cX7_rats 39 = .ok (.iinc 3 1, 3) := by decide +kernel
theorem dX7_rats_42 : decode cX7_rats 42 = .ok (.goto (-13), 3) := by decide +kernel
theorem dX7_rats_45 : decode cX7_rats 45 = .ok (.iconst 0, 1) := by decide +kernel
theorem dX7_rats_46 : decode cX7_rats 46 = .ok (.istore_n 3, 1) := by decide +kernel
theorem dX7_rats_47 : decode cX7_rats 47 = .ok (.iconst 0, 1) := by decide +kernel
theorem dX7_rats_48 : decode cX7_rats 48 = .ok (.istore 4, 2) := by decide +kernel
theorem dX7_rats_50 : decode cX7_rats 50 = .ok (.iload 4, 2) := by decide +kernel
theorem dX7_rats_52 : decode cX7_rats 52 = .ok (.aload_n 0, 1) := by decide +kernel
theorem dX7_rats_53 : decode cX7_rats 53 = .ok (.getfield 36, 3) := by decide +kernel
theorem dX7_rats_56 : decode cX7_rats 56 = .ok (.iconst 1, 1) := by decide +kernel
theorem dX7_rats_57 : decode cX7_rats 57 = .ok (.iaload, 1) := by decide +kernel
theorem dX7_rats_58 : decode cX7_rats 58 = .ok (.if_icmp .ge 46, 3) := by decide +kernel
theorem dX7_rats_61 : decode cX7_rats 61 = .ok (.iload_n 3, 1) := by decide +kernel
theorem dX7_rats_62 : decode cX7_rats 62 = .ok (.aload_n 0, 1) := by decide +kernel
theorem dX7_rats_63 : decode cX7_rats 63 = .ok (.iconst 0, 1) := by decide +kernel
theorem dX7_rats_64 : decode cX7_rats 64 = .ok (.iload 4, 2) := by decide +kernel
theorem dX7_rats_66 : decode cX7_rats 66 = .ok (.invokevirtual 154, 3) := by decide +kernel
theorem dX7_rats_69 : decode cX7_rats 69 = .ok (.ifCond .eq 20, 3) := by decide +kernel
theorem dX7_rats_72 : decode cX7_rats 72 = .ok (.aload_n 0, 1) := by decide +kernel
theorem dX7_rats_73 : decode cX7_rats 73 = .ok (.getfield 7, 3) := by decide +kernel
theorem dX7_rats_76 : decode cX7_rats 76 = .ok (.bipush 32, 2) := by decide +kernel
theorem dX7_rats_78 : decode cX7_rats 78 = .ok (.iload 4, 2) := by decide +kernel
theorem dX7_rats_80 : decode cX7_rats 80 = .ok (.iadd, 1) := by decide +kernel
theorem dX7_rats_81 : decode cX7_rats 81 = .ok (.iaload, 1) := by decide +kernel
theorem dX7_rats_82 : decode cX7_rats 82 = .ok (.ifCond .ne 7, 3) := by decide +kernel
theorem dX7_rats_85 : decode cX7_rats 85 = .ok (.iconst 1, 1) := by decide +kernel
theorem dX7_rats_86 : decode cX7_rats 86 = .ok (.goto 4, 3) := by decide +kernel
theorem dX7_rats_89 : decode cX7_rats 89 = .ok (.iconst 0, 1) := by decide +kernel
theorem dX7_rats_90 : decode cX7_rats 90 = .ok (.invokestatic 157, 3) := by decide +kernel
theorem dX7_rats_93 : decode cX7_rats 93 = .ok (.iload 4, 2) := by decide +kernel
theorem dX7_rats_95 : decode cX7_rats 95 = .ok (.ishl, 1) := by decide +kernel
theorem dX7_rats_96 : decode cX7_rats 96 = .ok (.ior, 1) := by decide +kernel
theorem dX7_rats_97 : decode cX7_rats 97 = .ok (.istore_n 3, 1) := by decide +kernel
theorem dX7_rats_98 : decode cX7_rats 98 = .ok (.iinc 4 1, 3) := by decide +kernel
theorem dX7_rats_101 : decode cX7_rats 101 = .ok (.goto (-51), 3) := by decide +kernel
theorem dX7_rats_104 : decode cX7_rats 104 = .ok (.iload_n 3, 1) := by decide +kernel
theorem dX7_rats_105 : decode cX7_rats 105 = .ok (.ireturn, 1) := by decide +kernel
theorem dX7_layIn_0 : decode cX7_layIn 0 = .ok (.aload_n 0, 1) := by decide +kernel
theorem dX7_layIn_1 : decode cX7_layIn 1 = .ok (.getfield 7, 3) := by decide +kernel
theorem dX7_layIn_4 : decode cX7_layIn 4 = .ok (.iload_n 1, 1) := by decide +kernel
theorem dX7_layIn_5 : decode cX7_layIn 5 = .ok (.iload_n 3, 1) := by decide +kernel
theorem dX7_layIn_6 : decode cX7_layIn 6 = .ok (.iadd, 1) := by decide +kernel
theorem dX7_layIn_7 : decode cX7_layIn 7 = .ok (.iaload, 1) := by decide +kernel
theorem dX7_layIn_8 : decode cX7_layIn 8 = .ok (.iconst 4, 1) := by decide +kernel
theorem dX7_layIn_9 : decode cX7_layIn 9 = .ok (.iadd, 1) := by decide +kernel
theorem dX7_layIn_10 : decode cX7_layIn 10 = .ok (.istore 4, 2) := by decide +kernel
theorem dX7_layIn_12 : decode cX7_layIn 12 = .ok (.aload_n 0, 1) := by decide +kernel
theorem dX7_layIn_13 : decode cX7_layIn 13 = .ok (.getfield 7, 3) := by decide +kernel
theorem dX7_layIn_16 : decode cX7_layIn 16 = .ok (.iload_n 1, 1) := by decide +kernel
theorem dX7_layIn_17 : decode cX7_layIn 17 = .ok (.iload_n 3, 1) := by decide +kernel
theorem dX7_layIn_18 : decode cX7_layIn 18 = .ok (.iadd, 1) := by decide +kernel
theorem dX7_layIn_19 : decode cX7_layIn 19 = .ok (.iconst 0, 1) := by decide +kernel
theorem dX7_layIn_20 : decode cX7_layIn 20 = .ok (.iastore, 1) := by decide +kernel
theorem dX7_layIn_21 : decode cX7_layIn 21 = .ok (.aload_n 0, 1) := by decide +kernel
theorem dX7_layIn_22 : decode cX7_layIn 22 = .ok (.getfield 7, 3) := by decide +kernel
theorem dX7_layIn_25 : decode cX7_layIn 25 = .ok (.iload_n 1, 1) := by decide +kernel
theorem dX7_layIn_26 : decode cX7_layIn 26 = .ok (.bipush 40, 2) := by decide +kernel
theorem dX7_layIn_28 : decode cX7_layIn 28 = .ok (.iadd, 1) := by decide +kernel
theorem dX7_layIn_29 : decode cX7_layIn 29 = .ok (.iload_n 2, 1) := by decide +kernel
theorem dX7_layIn_30 : decode cX7_layIn 30 = .ok (.iadd, 1) := by decide +kernel
theorem dX7_layIn_31 : decode cX7_layIn 31 = .ok (.iload_n 3, 1) := by decide +kernel
theorem dX7_layIn_32 : decode cX7_layIn 32 = .ok (.iastore, 1) := by decide +kernel
theorem dX7_layIn_33 : decode cX7_layIn 33 = .ok (.aload_n 0, 1) := by decide +kernel
theorem dX7_layIn_34 : decode cX7_layIn 34 = .ok (.getfield 7, 3) := by decide +kernel
theorem dX7_layIn_37 : decode cX7_layIn 37 = .ok (.iload_n 1, 1) := by decide +kernel
theorem dX7_layIn_38 : decode cX7_layIn 38 = .ok (.bipush 72, 2) := by decide +kernel
theorem dX7_layIn_40 : decode cX7_layIn 40 = .ok (.iadd, 1) := by decide +kernel
theorem dX7_layIn_41 : decode cX7_layIn 41 = .ok (.dup2, 1) := by decide +kernel
theorem dX7_layIn_42 : decode cX7_layIn 42 = .ok (.iaload, 1) := by decide +kernel
theorem dX7_layIn_43 : decode cX7_layIn 43 = .ok (.iload 4, 2) := by decide +kernel
theorem dX7_layIn_45 : decode cX7_layIn 45 = .ok (.iadd, 1) := by decide +kernel
theorem dX7_layIn_46 : decode cX7_layIn 46 = .ok (.iastore, 1) := by decide +kernel
theorem dX7_layIn_47 : decode cX7_layIn 47 = .ok (.iload 4, 2) := by decide +kernel
theorem dX7_layIn_49 : decode cX7_layIn 49 = .ok (.ireturn, 1) := by decide +kernel
theorem dX7_lay_0 : decode cX7_lay 0 = .ok (.aload_n 0, 1) := by decide +kernel
theorem dX7_lay_1 : decode cX7_lay 1 = .ok (.iload_n 1, 1) := by decide +kernel
theorem dX7_lay_2 : decode cX7_lay 2 = .ok (.invokevirtual 190, 3) := by decide +kernel
theorem dX7_lay_5 : decode cX7_lay 5 = .ok (.ifCond .eq 11, 3) := by decide +kernel
theorem dX7_lay_8 : decode cX7_lay 8 = .ok (.aload_n 0, 1) := by decide +kernel
theorem dX7_lay_9 : decode cX7_lay 9 = .ok (.iload_n 2, 1) := by decide +kernel
theorem dX7_lay_10 : decode cX7_lay 10 = .ok (.invokevirtual 182, 3) := by decide +kernel
theorem dX7_lay_13 : decode cX7_lay 13 = .ok (.ifCond .ne 6, 3) := by decide +kernel
theorem dX7_lay_16 : decode cX7_lay 16 = .ok (.ldc 186, 2) := by decide +kernel
theorem dX7_lay_18 : decode cX7_lay 18 = .ok (.ireturn, 1) := by decide +kernel
theorem dX7_lay_19 : decode cX7_lay 19 = .ok (.aload_n 0, 1) := by decide +kernel
theorem dX7_lay_20 : decode cX7_lay 20 = .ok (.iconst 0, 1) := by decide +kernel
theorem dX7_lay_21 : decode cX7_lay 21 = .ok (.iload_n 1, 1) := by decide +kernel
theorem dX7_lay_22 : decode cX7_lay 22 = .ok (.invokevirtual 154, 3) := by decide +kernel
theorem dX7_lay_25 : decode cX7_lay 25 = .ok (.ifCond .eq 22, 3) := by decide +kernel
theorem dX7_lay_28 : decode cX7_lay 28 = .ok (.aload_n 0, 1) := by decide +kernel
theorem dX7_lay_29 : decode cX7_lay 29 = .ok (.iconst 0, 1) := by decide +kernel
theorem dX7_lay_30 : decode cX7_lay 30 = .ok (.iload_n 2, 1) := by decide +kernel
theorem dX7_lay_31 : decode cX7_lay 31 = .ok (.invokevirtual 187, 3) := by decide +kernel
theorem dX7_lay_34 : decode cX7_lay 34 = .ok (.ifCond .ge 13, 3) := by decide +kernel
theorem dX7_lay_37 : decode cX7_lay 37 = .ok (.aload_n 0, 1) := by decide +kernel
theorem dX7_lay_38 : decode cX7_lay 38 = .ok (.iconst 0, 1) := by decide +kernel
theorem dX7_lay_39 : decode cX7_lay 39 = .ok (.iload_n 1, 1) := by decide +kernel
theorem dX7_lay_40 : decode cX7_lay 40 = .ok (.iload_n 2, 1) := by decide +kernel
theorem dX7_lay_41 : decode cX7_lay 41 = .ok (.invokevirtual 230, 3) := by decide +kernel
theorem dX7_lay_44 : decode cX7_lay 44 = .ok (.goto 5, 3) := by decide +kernel
theorem dX7_lay_47 : decode cX7_lay 47 = .ok (.ldc 200, 2) := by decide +kernel
theorem dX7_lay_49 : decode cX7_lay 49 = .ok (.ireturn, 1) := by decide +kernel
theorem dX7_leastSoft_0 : decode cX7_leastSoft 0 = .ok (.iconst 0, 1) := by decide +kernel
theorem dX7_leastSoft_1 : decode cX7_leastSoft 1 = .ok (.istore_n 1, 1) := by decide +kernel
theorem dX7_leastSoft_2 : decode cX7_leastSoft 2 = .ok (.iload_n 1, 1) := by decide +kernel
theorem dX7_leastSoft_3 : decode cX7_leastSoft 3 = .ok (.aload_n 0, 1) := by decide +kernel
theorem dX7_leastSoft_4 : decode cX7_leastSoft 4 = .ok (.getfield 36, 3) := by decide +kernel
theorem dX7_leastSoft_7 : decode cX7_leastSoft 7 = .ok (.iconst 0, 1) := by decide +kernel
theorem dX7_leastSoft_8 : decode cX7_leastSoft 8 = .ok (.iaload, 1) := by decide +kernel
theorem dX7_leastSoft_9 : decode cX7_leastSoft 9 = .ok (.if_icmp .ge 29, 3) := by decide +kernel
theorem dX7_leastSoft_12 : decode cX7_leastSoft 12 = .ok (.aload_n 0, 1) := by decide +kernel
theorem dX7_leastSoft_13 : decode cX7_leastSoft 13 = .ok (.getfield 7, 3) := by decide +kernel
theorem dX7_leastSoft_16 : decode cX7_leastSoft 16 = .ok (.iload_n 1, 1) := by decide +kernel
theorem dX7_leastSoft_17 : decode cX7_leastSoft 17 = .ok (.iaload, 1) := by decide +kernel
theorem dX7_leastSoft_18 : decode cX7_leastSoft 18 = .ok (.ifCond .ne 14, 3) := by decide +kernel
theorem dX7_leastSoft_21 : decode cX7_leastSoft 21 = .ok (.aload_n 0, 1) := by decide +kernel
theorem dX7_leastSoft_22 : decode cX7_leastSoft 22 = .ok (.iconst 0, 1) := by decide +kernel
theorem dX7_leastSoft_23 : decode cX7_leastSoft 23 = .ok (.iload_n 1, 1) := by decide +kernel
theorem dX7_leastSoft_24 : decode cX7_leastSoft 24 = .ok (.invokevirtual 187, 3) := by decide +kernel
theorem dX7_leastSoft_27 : decode cX7_leastSoft 27 = .ok (.ifCond .ge 5, 3) := by decide +kernel
theorem dX7_leastSoft_30 : decode cX7_leastSoft 30 = .ok (.iload_n 1, 1) := by decide +kernel
theorem dX7_leastSoft_31 : decode cX7_leastSoft 31 = .ok (.ireturn, 1) := by decide +kernel
theorem dX7_leastSoft_32 : decode cX7_leastSoft 32 = .ok (.iinc 1 1, 3) := by decide +kernel
theorem dX7_leastSoft_35 : decode cX7_leastSoft 35 = .ok (.goto (-33), 3) := by decide +kernel
theorem dX7_leastSoft_38 : decode cX7_leastSoft 38 = .ok (.iconst (-1), 1) := by decide +kernel
theorem dX7_leastSoft_39 : decode cX7_leastSoft 39 = .ok (.ireturn, 1) := by decide +kernel
theorem dX7_spring_0 : decode cX7_spring 0 = .ok (.iload_n 1, 1) := by decide +kernel
theorem dX7_spring_1 : decode cX7_spring 1 = .ok (.i2l, 1) := by decide +kernel
theorem dX7_spring_2 : decode cX7_spring 2 = .ok (.lconst 1, 1) := by decide +kernel
theorem dX7_spring_3 : decode cX7_spring 3 = .ok (.ldc2_w 196, 3) := by decide +kernel
theorem dX7_spring_6 : decode cX7_spring 6 = .ok (.invokestatic 77, 3) := by decide +kernel
theorem dX7_spring_9 : decode cX7_spring 9 = .ok (.ifCond .eq 15, 3) := by decide +kernel
theorem dX7_spring_12 : decode cX7_spring 12 = .ok (.iload_n 2, 1) := by decide +kernel
theorem dX7_spring_13 : decode cX7_spring 13 = .ok (.i2l, 1) := by decide +kernel
theorem dX7_spring_14 : decode cX7_spring 14 = .ok (.lconst 0, 1) := by decide +kernel
theorem dX7_spring_15 : decode cX7_spring 15 = .ok (.ldc2_w 206, 3) := by decide +kernel
theorem dX7_spring_18 : decode cX7_spring 18 = .ok (.invokestatic 77, 3) := by decide +kernel
theorem dX7_spring_21 : decode cX7_spring 21 = .ok (.ifCond .ne 6, 3) := by decide +kernel
theorem dX7_spring_24 : decode cX7_spring 24 = .ok (.ldc 81, 2) := by decide +kernel
theorem dX7_spring_26 : decode cX7_spring 26 = .ok (.ireturn, 1) := by decide +kernel
theorem dX7_spring_27 : decode cX7_spring 27 = .ok (.iconst 0, 1) := by decide +kernel
theorem dX7_spring_28 : decode cX7_spring 28 = .ok (.istore_n 3, 1) := by decide +kernel
theorem dX7_spring_29 : decode cX7_spring 29 = .ok (.iload_n 3, 1) := by decide +kernel
theorem dX7_spring_30 : decode cX7_spring 30 = .ok (.iload_n 1, 1) := by decide +kernel
theorem dX7_spring_31 : decode cX7_spring 31 = .ok (.if_icmp .ge 84, 3) := by decide +kernel
theorem dX7_spring_34 : decode cX7_spring 34 = .ok (.aload_n 0, 1) := by decide +kernel
theorem dX7_spring_35 : decode cX7_spring 35 = .ok (.bipush 12, 2) := by decide +kernel
theorem dX7_spring_37 : decode cX7_spring 37 = .ok (.invokevirtual 222, 3) := by decide +kernel
theorem dX7_spring_40 : decode cX7_spring 40 = .ok (.iconst 3, 1) := by decide +kernel
theorem dX7_spring_41 : decode cX7_spring 41 = .ok (.isub, 1) := by decide +kernel
theorem dX7_spring_42 : decode cX7_spring 42 = .ok (.istore 4, 2) := by decide +kernel
theorem dX7_spring_44 : decode cX7_spring 44 = .ok (.aload_n 0, 1) := by decide +kernel
theorem dX7_spring_45 : decode cX7_spring 45 = .ok (.iload 4, 2) := by decide +kernel
theorem dX7_spring_47 : decode cX7_spring 47 = .ok (.invokevirtual 208, 3) := by decide +kernel
theorem dX7_spring_50 : decode cX7_spring 50 = .ok (.aload_n 0, 1) := by decide +kernel
theorem dX7_spring_51 : decode cX7_spring 51 = .ok (.iconst 2, 1) := by decide +kernel
theorem dX7_spring_52 : decode cX7_spring 52 = .ok (.invokevirtual 227, 3) := by decide +kernel
theorem dX7_spring_55 : decode cX7_spring 55 = .ok (.iconst 0, 1) := by decide +kernel
theorem dX7_spring_56 : decode cX7_spring 56 = .ok (.istore 5, 2) := by decide +kernel
theorem dX7_spring_58 : decode cX7_spring 58 = .ok (.iload 5, 2) := by decide +kernel
theorem dX7_spring_60 : decode cX7_spring 60 = .ok (.iload_n 2, 1) := by decide +kernel
theorem dX7_spring_61 : decode cX7_spring 61 = .ok (.if_icmp .ge 48, 3) := by decide +kernel
theorem dX7_spring_64 : decode cX7_spring 64 = .ok (.aload_n 0, 1) := by decide +kernel
theorem dX7_spring_65 : decode cX7_spring 65 = .ok (.iconst 0, 1) := by decide +kernel
theorem dX7_spring_66 : decode cX7_spring 66 = .ok (.iconst 0, 1) := by decide +kernel
theorem dX7_spring_67 : decode cX7_spring 67 = .ok (.invokevirtual 193, 3) := by decide +kernel
theorem dX7_spring_70 : decode cX7_spring 70 = .ok (.istore 6, 2) := by decide +kernel
theorem dX7_spring_72 : decode cX7_spring 72 = .ok (.aload_n 0, 1) := by decide +kernel
theorem dX7_spring_73 : decode cX7_spring 73 = .ok (.invokevirtual 233, 3) := by decide +kernel
theorem dX7_spring_76 : decode cX7_spring 76 = .ok (.istore 7, 2) := by decide +kernel
theorem dX7_spring_78 : decode cX7_spring 78 = .ok (.iload 6, 2) := by decide +kernel
theorem dX7_spring_80 : decode cX7_spring 80 = .ok (.ifCond .lt 8, 3) := by decide +kernel
theorem dX7_spring_83 : decode cX7_spring 83 = .ok (.iload 7, 2) := by decide +kernel
theorem dX7_spring_85 : decode cX7_spring 85 = .ok (.ifCond .ge 7, 3) := by decide +kernel
theorem dX7_spring_88 : decode cX7_spring 88 = .ok (.iconst 0, 1) := by decide +kernel
theorem dX7_spring_89 : decode cX7_spring 89 = .ok (.goto 12, 3) := by decide +kernel
theorem dX7_spring_92 : decode cX7_spring 92 = .ok (.aload_n 0, 1) := by decide +kernel
theorem dX7_spring_93 : decode cX7_spring 93 = .ok (.iconst 0, 1) := by decide +kernel
theorem dX7_spring_94 : decode cX7_spring 94 = .ok (.iload 6, 2) := by decide +kernel
theorem dX7_spring_96 : decode cX7_spring 96 = .ok (.iload 7, 2) := by decide +kernel
theorem dX7_spring_98 : decode cX7_spring 98 = .ok (.invokevirtual 230, 3) := by decide +kernel
theorem dX7_spring_101 : decode cX7_spring 101 = .ok (.istore 8, 2) := by decide +kernel
theorem dX7_spring_103 : decode cX7_spring 103 = .ok (.iinc 5 1, 3) := by decide +kernel
theorem dX7_spring_106 : decode cX7_spring 106 = .ok (.goto (-48), 3) := by decide +kernel
theorem dX7_spring_109 : decode cX7_spring 109 = .ok (.iinc 3 1, 3) := by decide +kernel
theorem dX7_spring_112 : decode cX7_spring 112 = .ok (.goto (-83), 3) := by decide +kernel
theorem dX7_spring_115 : decode cX7_spring 115 = .ok (.aload_n 0, 1) := by decide +kernel
theorem dX7_spring_116 : decode cX7_spring 116 = .ok (.iconst 0, 1) := by decide +kernel
theorem dX7_spring_117 : decode cX7_spring 117 = .ok (.invokevirtual 179, 3) := by decide +kernel
theorem dX7_spring_120 : decode cX7_spring 120 = .ok (.invokestatic 236, 3) := by decide +kernel
theorem dX7_spring_123 : decode cX7_spring 123 = .ok (.ireturn, 1) := by decide +kernel
theorem dX7_offends_0 : decode cX7_offends 0 = .ok (.iload_n 3, 1) := by decide +kernel
theorem dX7_offends_1 : decode cX7_offends 1 = .ok (.iload_n 2, 1) := by decide +kernel
theorem dX7_offends_2 : decode cX7_offends 2 = .ok (.if_icmp .eq 70, 3) := by decide +kernel
theorem dX7_offends_5 : decode cX7_offends 5 = .ok (.aload_n 0, 1) := by decide +kernel
theorem dX7_offends_6 : decode cX7_offends 6 = .ok (.getfield 7, 3) := by decide +kernel
theorem dX7_offends_9 : decode cX7_offends 9 = .ok (.iload_n 1, 1) := by decide +kernel
theorem dX7_offends_10 : decode cX7_offends 10 = .ok (.bipush 40, 2) := by decide +kernel
theorem dX7_offends_12 : decode cX7_offends 12 = .ok (.iadd, 1) := by decide +kernel
theorem dX7_offends_13 : decode cX7_offends 13 = .ok (.iload_n 3, 1) := by decide +kernel
theorem dX7_offends_14 : decode cX7_offends 14 = .ok (.iadd, 1) := by decide +kernel
theorem dX7_offends_15 : decode cX7_offends 15 = .ok (.iaload, 1) := by decide +kernel
theorem dX7_offends_16 : decode cX7_offends 16 = .ok (.ifCond .lt 56, 3) := by decide +kernel
theorem dX7_offends_19 : decode cX7_offends 19 = .ok (.aload_n 0, 1) := by decide +kernel
theorem dX7_offends_20 : decode cX7_offends 20 = .ok (.getfield 7, 3) := by decide +kernel
theorem dX7_offends_23 : decode cX7_offends 23 = .ok (.iload_n 1, 1) := by decide +kernel
theorem dX7_offends_24 : decode cX7_offends 24 = .ok (.bipush 40, 2) := by decide +kernel
theorem dX7_offends_26 : decode cX7_offends 26 = .ok (.iadd, 1) := by decide +kernel
theorem dX7_offends_27 : decode cX7_offends 27 = .ok (.iload_n 2, 1) := by decide +kernel
theorem dX7_offends_28 : decode cX7_offends 28 = .ok (.iadd, 1) := by decide +kernel
theorem dX7_offends_29 : decode cX7_offends 29 = .ok (.iaload, 1) := by decide +kernel
theorem dX7_offends_30 : decode cX7_offends 30 = .ok (.ifCond .lt 42, 3) := by decide +kernel
theorem dX7_offends_33 : decode cX7_offends 33 = .ok (.aload_n 0, 1) := by decide +kernel
theorem dX7_offends_34 : decode cX7_offends 34 = .ok (.iload_n 1, 1) := by decide +kernel
theorem dX7_offends_35 : decode cX7_offends 35 = .ok (.iload_n 3, 1) := by decide +kernel
theorem dX7_offends_36 : decode cX7_offends 36 = .ok (.iload_n 2, 1) := by decide +kernel
theorem dX7_offends_37 : decode cX7_offends 37 = .ok (.invokevirtual 165, 3) := by decide +kernel
theorem dX7_offends_40 : decode cX7_offends 40 = .ok (.ifCond .eq 32, 3) := by decide +kernel
theorem dX7_offends_43 : decode cX7_offends 43 = .ok (.aload_n 0, 1) := by decide +kernel
theorem dX7_offends_44 : decode cX7_offends 44 = .ok (.getfield 7, 3) := by decide +kernel
theorem dX7_offends_47 : decode cX7_offends 47 = .ok (.iload_n 1, 1) := by decide +kernel
theorem dX7_offends_48 : decode cX7_offends 48 = .ok (.bipush 40, 2) := by decide +kernel
theorem dX7_offends_50 : decode cX7_offends 50 = .ok (.iadd, 1) := by decide +kernel
theorem dX7_offends_51 : decode cX7_offends 51 = .ok (.iload_n 2, 1) := by decide +kernel
theorem dX7_offends_52 : decode cX7_offends 52 = .ok (.iadd, 1) := by decide +kernel
theorem dX7_offends_53 : decode cX7_offends 53 = .ok (.iaload, 1) := by decide +kernel
theorem dX7_offends_54 : decode cX7_offends 54 = .ok (.aload_n 0, 1) := by decide +kernel
theorem dX7_offends_55 : decode cX7_offends 55 = .ok (.getfield 7, 3) := by decide +kernel
theorem dX7_offends_58 : decode cX7_offends 58 = .ok (.iload_n 1, 1) := by decide +kernel
theorem dX7_offends_59 : decode cX7_offends 59 = .ok (.bipush 40, 2) := by decide +kernel
theorem dX7_offends_61 : decode cX7_offends 61 = .ok (.iadd, 1) := by decide +kernel
theorem dX7_offends_62 : decode cX7_offends 62 = .ok (.iload_n 3, 1) := by decide +kernel
theorem dX7_offends_63 : decode cX7_offends 63 = .ok (.iadd, 1) := by decide +kernel
theorem dX7_offends_64 : decode cX7_offends 64 = .ok (.iaload, 1) := by decide +kernel
theorem dX7_offends_65 : decode cX7_offends 65 = .ok (.if_icmp .ge 7, 3) := by decide +kernel
theorem dX7_offends_68 : decode cX7_offends 68 = .ok (.iconst 1, 1) := by decide +kernel
theorem dX7_offends_69 : decode cX7_offends 69 = .ok (.goto 4, 3) := by decide +kernel
theorem dX7_offends_72 : decode cX7_offends 72 = .ok (.iconst 0, 1) := by decide +kernel
theorem dX7_offends_73 : decode cX7_offends 73 = .ok (.ireturn, 1) := by decide +kernel
theorem dX7_offended_0 : decode cX7_offended 0 = .ok (.aload_n 0, 1) := by decide +kernel
theorem dX7_offended_1 : decode cX7_offended 1 = .ok (.iload_n 1, 1) := by decide +kernel
theorem dX7_offended_2 : decode cX7_offended 2 = .ok (.invokevirtual 190, 3) := by decide +kernel
theorem dX7_offended_5 : decode cX7_offended 5 = .ok (.ifCond .ne 6, 3) := by decide +kernel
theorem dX7_offended_8 : decode cX7_offended 8 = .ok (.ldc 186, 2) := by decide +kernel
theorem dX7_offended_10 : decode cX7_offended 10 = .ok (.ireturn, 1) := by decide +kernel
theorem dX7_offended_11 : decode cX7_offended 11 = .ok (.aload_n 0, 1) := by decide +kernel
theorem dX7_offended_12 : decode cX7_offended 12 = .ok (.getfield 7, 3) := by decide +kernel
theorem dX7_offended_15 : decode cX7_offended 15 = .ok (.bipush 40, 2) := by decide +kernel
theorem dX7_offended_17 : decode cX7_offended 17 = .ok (.iload_n 1, 1) := by decide +kernel
theorem dX7_offended_18 : decode cX7_offended 18 = .ok (.iadd, 1) := by decide +kernel
theorem dX7_offended_19 : decode cX7_offended 19 = .ok (.iaload, 1) := by decide +kernel
theorem dX7_offended_20 : decode cX7_offended 20 = .ok (.ifCond .ge 6, 3) := by decide +kernel
theorem dX7_offended_23 : decode cX7_offended 23 = .ok (.ldc 200, 2) := by decide +kernel
theorem dX7_offended_25 : decode cX7_offended 25 = .ok (.ireturn, 1) := by decide +kernel
theorem dX7_offended_26 : decode cX7_offended 26 = .ok (.iconst 0, 1) := by decide +kernel
theorem dX7_offended_27 : decode cX7_offended 27 = .ok (.istore_n 2, 1) := by decide +kernel
theorem dX7_offended_28 : decode cX7_offended 28 = .ok (.iconst 0, 1) := by decide +kernel
theorem dX7_offended_29 : decode cX7_offended 29 = .ok (.istore_n 3, 1) := by decide +kernel
theorem dX7_offended_30 : decode cX7_offended 30 = .ok (.iload_n 3, 1) := by decide +kernel
theorem dX7_offended_31 : decode cX7_offended 31 = .ok (.aload_n 0, 1) := by decide +kernel
theorem dX7_offended_32 : decode cX7_offended 32 = .ok (.getfield 36, 3) := by decide +kernel
theorem dX7_offended_35 : decode cX7_offended 35 = .ok (.iconst 1, 1) := by decide +kernel
theorem dX7_offended_36 : decode cX7_offended 36 = .ok (.iaload, 1) := by decide +kernel
theorem dX7_offended_37 : decode cX7_offended 37 = .ok (.if_icmp .ge 24, 3) := by decide +kernel
theorem dX7_offended_40 : decode cX7_offended 40 = .ok (.iload_n 2, 1) := by decide +kernel
theorem dX7_offended_41 : decode cX7_offended 41 = .ok (.aload_n 0, 1) := by decide +kernel
theorem dX7_offended_42 : decode cX7_offended 42 = .ok (.iconst 0, 1) := by decide +kernel
theorem dX7_offended_43 : decode cX7_offended 43 = .ok (.iload_n 3, 1) := by decide +kernel
theorem dX7_offended_44 : decode cX7_offended 44 = .ok (.iload_n 1, 1) := by decide +kernel
theorem dX7_offended_45 : decode cX7_offended 45 = .ok (.invokevirtual 239, 3) := by decide +kernel
theorem dX7_offended_48 : decode cX7_offended 48 = .ok (.invokestatic 157, 3) := by decide +kernel
theorem dX7_offended_51 : decode cX7_offended 51 = .ok (.iload_n 3, 1) := by decide +kernel
theorem dX7_offended_52 : decode cX7_offended 52 = .ok (.ishl, 1) := by decide +kernel
theorem dX7_offended_53 : decode cX7_offended 53 = .ok (.ior, 1) := by decide +kernel
theorem dX7_offended_54 : decode cX7_offended 54 = .ok (.istore_n 2, 1) := by decide +kernel
theorem dX7_offended_55 : decode cX7_offended 55 = .ok (.iinc 3 1, 3) := by decide +kernel
theorem dX7_offended_58 : decode cX7_offended 58 = .ok (.goto (-28), 3) := by decide +kernel
theorem dX7_offended_61 : decode cX7_offended 61 = .ok (.iload_n 2, 1) := by decide +kernel
theorem dX7_offended_62 : decode cX7_offended 62 = .ok (.ireturn, 1) := by decide +kernel
theorem dX7_quarrelsIn_0 : decode cX7_quarrelsIn 0 = .ok (.iconst 0, 1) := by decide +kernel
theorem dX7_quarrelsIn_1 : decode cX7_quarrelsIn 1 = .ok (.istore_n 2, 1) := by decide +kernel
theorem dX7_quarrelsIn_2 : decode cX7_quarrelsIn 2 = .ok (.iconst 0, 1) := by decide +kernel
theorem dX7_quarrelsIn_3 : decode cX7_quarrelsIn 3 = .ok (.istore_n 3, 1) := by decide +kernel
theorem dX7_quarrelsIn_4 : decode cX7_quarrelsIn 4 = .ok (.iload_n 3, 1) := by decide +kernel
theorem dX7_quarrelsIn_5 : decode cX7_quarrelsIn 5 = .ok (.aload_n 0, 1) := by decide +kernel
theorem dX7_quarrelsIn_6 : decode cX7_quarrelsIn 6 = .ok (.getfield 36, 3) := by decide +kernel
theorem dX7_quarrelsIn_9 : decode cX7_quarrelsIn 9 = .ok (.iconst 1, 1) := by decide +kernel
theorem dX7_quarrelsIn_10 : decode cX7_quarrelsIn 10 = .ok (.iaload, 1) := by decide +kernel
theorem dX7_quarrelsIn_11 : decode cX7_quarrelsIn 11 = .ok (.if_icmp .ge 146, 3) := by decide +kernel
theorem dX7_quarrelsIn_14 : decode cX7_quarrelsIn 14 = .ok (.iconst 0, 1) := by decide +kernel
theorem dX7_quarrelsIn_15 : decode cX7_quarrelsIn 15 = .ok (.istore 4, 2) := by decide +kernel
theorem dX7_quarrelsIn_17 : decode cX7_quarrelsIn 17 = .ok (.iload 4, 2) := by decide +kernel
theorem dX7_quarrelsIn_19 : decode cX7_quarrelsIn 19 = .ok (.aload_n 0, 1) := by decide +kernel
theorem dX7_quarrelsIn_20 : decode cX7_quarrelsIn 20 = .ok (.getfield 36, 3) := by decide +kernel
theorem dX7_quarrelsIn_23 : decode cX7_quarrelsIn 23 = .ok (.iconst 1, 1) := by decide +kernel
theorem dX7_quarrelsIn_24 : decode cX7_quarrelsIn 24 = .ok (.iaload, 1) := by decide +kernel
theorem dX7_quarrelsIn_25 : decode cX7_quarrelsIn 25 = .ok (.if_icmp .ge 126, 3) := by decide +kernel
theorem dX7_quarrelsIn_28 : decode cX7_quarrelsIn 28 = .ok (.iload_n 3, 1) := by decide +kernel
theorem dX7_quarrelsIn_29 : decode cX7_quarrelsIn 29 = .ok (.iload 4, 2) := by decide +kernel
theorem dX7_quarrelsIn_31 : decode cX7_quarrelsIn 31 = .ok (.if_icmp .ge 67, 3) := by decide +kernel
theorem dX7_quarrelsIn_34 : decode cX7_quarrelsIn 34 = .ok (.aload_n 0, 1) := by decide +kernel
theorem dX7_quarrelsIn_35 : decode cX7_quarrelsIn 35 = .ok (.getfield 7, 3) := by decide +kernel
theorem dX7_quarrelsIn_38 : decode cX7_quarrelsIn 38 = .ok (.iload_n 1, 1) := by decide +kernel
theorem dX7_quarrelsIn_39 : decode cX7_quarrelsIn 39 = .ok (.bipush 40, 2) := by decide +kernel
theorem dX7_quarrelsIn_41 : decode cX7_quarrelsIn 41 = .ok (.iadd, 1) := by decide +kernel
theorem dX7_quarrelsIn_42 : decode cX7_quarrelsIn 42 = .ok (.iload_n 3, 1) := by decide +kernel
theorem dX7_quarrelsIn_43 : decode cX7_quarrelsIn 43 = .ok (.iadd, 1) := by decide +kernel
theorem dX7_quarrelsIn_44 : decode cX7_quarrelsIn 44 = .ok (.iaload, 1) := by decide +kernel
theorem dX7_quarrelsIn_45 : decode cX7_quarrelsIn 45 = .ok (.ifCond .lt 53, 3) := by decide +kernel
theorem dX7_quarrelsIn_48 : decode cX7_quarrelsIn 48 = .ok (.aload_n 0, 1) := by decide +kernel
theorem dX7_quarrelsIn_49 : decode cX7_quarrelsIn 49 = .ok (.getfield 7, 3) := by decide +kernel
theorem dX7_quarrelsIn_52 : decode cX7_quarrelsIn 52 = .ok (.iload_n 1, 1) := by decide +kernel
theorem dX7_quarrelsIn_53 : decode cX7_quarrelsIn 53 = .ok (.bipush 40, 2) := by decide +kernel
theorem dX7_quarrelsIn_55 : decode cX7_quarrelsIn 55 = .ok (.iadd, 1) := by decide +kernel
theorem dX7_quarrelsIn_56 : decode cX7_quarrelsIn 56 = .ok (.iload 4, 2) := by decide +kernel
theorem dX7_quarrelsIn_58 : decode cX7_quarrelsIn 58 = .ok (.iadd, 1) := by decide +kernel
theorem dX7_quarrelsIn_59 : decode cX7_quarrelsIn 59 = .ok (.iaload, 1) := by decide +kernel
theorem dX7_quarrelsIn_60 : decode cX7_quarrelsIn 60 = .ok (.ifCond .lt 38, 3) := by decide +kernel
theorem dX7_quarrelsIn_63 : decode cX7_quarrelsIn 63 = .ok (.aload_n 0, 1) := by decide +kernel
theorem dX7_quarrelsIn_64 : decode cX7_quarrelsIn 64 = .ok (.getfield 7, 3) := by decide +kernel
theorem dX7_quarrelsIn_67 : decode cX7_quarrelsIn 67 = .ok (.iload_n 1, 1) := by decide +kernel
theorem dX7_quarrelsIn_68 : decode cX7_quarrelsIn 68 = .ok (.bipush 40, 2) := by decide +kernel
theorem dX7_quarrelsIn_70 : decode cX7_quarrelsIn 70 = .ok (.iadd, 1) := by decide +kernel
theorem dX7_quarrelsIn_71 : decode cX7_quarrelsIn 71 = .ok (.iload_n 3, 1) := by decide +kernel
theorem dX7_quarrelsIn_72 : decode cX7_quarrelsIn 72 = .ok (.iadd, 1) := by decide +kernel
theorem dX7_quarrelsIn_73 : decode cX7_quarrelsIn 73 = .ok (.iaload, 1) := by decide +kernel
theorem dX7_quarrelsIn_74 : decode cX7_quarrelsIn 74 = .ok (.aload_n 0, 1) := by decide +kernel
theorem dX7_quarrelsIn_75 : decode cX7_quarrelsIn 75 = .ok (.getfield 7, 3) := by decide +kernel
theorem dX7_quarrelsIn_78 : decode cX7_quarrelsIn 78 = .ok (.iload_n 1, 1) := by decide +kernel
theorem dX7_quarrelsIn_79 : decode cX7_quarrelsIn 79 = .ok (.bipush 40, 2) := by decide +kernel
theorem dX7_quarrelsIn_81 : decode cX7_quarrelsIn 81 = .ok (.iadd, 1) := by decide +kernel
theorem dX7_quarrelsIn_82 : decode cX7_quarrelsIn 82 = .ok (.iload 4, 2) := by decide +kernel
theorem dX7_quarrelsIn_84 : decode cX7_quarrelsIn 84 = .ok (.iadd, 1) := by decide +kernel
theorem dX7_quarrelsIn_85 : decode cX7_quarrelsIn 85 = .ok (.iaload, 1) := by decide +kernel
theorem dX7_quarrelsIn_86 : decode cX7_quarrelsIn 86 = .ok (.isub, 1) := by decide +kernel
theorem dX7_quarrelsIn_87 : decode cX7_quarrelsIn 87 = .ok (.invokestatic 242, 3) := by decide +kernel
theorem dX7_quarrelsIn_90 : decode cX7_quarrelsIn 90 = .ok (.iconst 1, 1) := by decide +kernel
theorem dX7_quarrelsIn_91 : decode cX7_quarrelsIn 91 = .ok (.if_icmp .eq 7, 3) := by decide +kernel
theorem dX7_quarrelsIn_94 : decode cX7_quarrelsIn 94 = .ok (.iconst 1, 1) := by decide +kernel
theorem dX7_quarrelsIn_95 : decode cX7_quarrelsIn 95 = .ok (.goto 4, 3) := by decide +kernel
theorem dX7_quarrelsIn_98 : decode cX7_quarrelsIn 98 = .ok (.iconst 0, 1) := by decide +kernel
theorem dX7_quarrelsIn_99 : decode cX7_quarrelsIn 99 = .ok (.istore 5, 2) := by decide +kernel
theorem dX7_quarrelsIn_101 : decode cX7_quarrelsIn 101 = .ok (.iload_n 2, 1) := by decide +kernel
theorem dX7_quarrelsIn_102 : decode cX7_quarrelsIn 102 = .ok (.aload_n 0, 1) := by decide +kernel
theorem dX7_quarrelsIn_103 : decode cX7_quarrelsIn 103 = .ok (.iload_n 1, 1) := by decide +kernel
theorem dX7_quarrelsIn_104 : decode cX7_quarrelsIn 104 = .ok (.iload 4, 2) := by decide +kernel
theorem dX7_quarrelsIn_106 : decode cX7_quarrelsIn 106 = .ok (.iload_n 3, 1) := by decide +kernel
theorem dX7_quarrelsIn_107 : decode cX7_quarrelsIn 107 = .ok (.invokevirtual 239, 3) := by decide +kernel
theorem dX7_quarrelsIn_110 : decode cX7_quarrelsIn 110 = .ok (.invokestatic 157, 3) := by decide +kernel
theorem dX7_quarrelsIn_113 : decode cX7_quarrelsIn 113 = .ok (.iload 5, 2) := by decide +kernel
theorem dX7_quarrelsIn_115 : decode cX7_quarrelsIn 115 = .ok (.ifCond .eq 23, 3) := by decide +kernel
theorem dX7_quarrelsIn_118 : decode cX7_quarrelsIn 118 = .ok (.aload_n 0, 1) := by decide +kernel
theorem dX7_quarrelsIn_119 : decode cX7_quarrelsIn 119 = .ok (.getfield 33, 3) := by decide +kernel
theorem dX7_quarrelsIn_122 : decode cX7_quarrelsIn 122 = .ok (.iload_n 3, 1) := by decide +kernel
theorem dX7_quarrelsIn_123 : decode cX7_quarrelsIn 123 = .ok (.iaload, 1) := by decide +kernel
theorem dX7_quarrelsIn_124 : decode cX7_quarrelsIn 124 = .ok (.aload_n 0, 1) := by decide +kernel
theorem dX7_quarrelsIn_125 : decode cX7_quarrelsIn 125 = .ok (.getfield 33, 3) := by decide +kernel
theorem dX7_quarrelsIn_128 : decode cX7_quarrelsIn 128 = .ok (.iload 4, 2) := by decide +kernel
theorem dX7_quarrelsIn_130 : decode cX7_quarrelsIn 130 = .ok (.iaload, 1) := by decide +kernel
theorem dX7_quarrelsIn_131 : decode cX7_quarrelsIn 131 = .ok (.if_icmp .ne 7, 3) := by decide +kernel
theorem dX7_quarrelsIn_134 : decode cX7_quarrelsIn 134 = .ok (.iconst 1, 1) := by decide +kernel
theorem dX7_quarrelsIn_135 : decode cX7_quarrelsIn 135 = .ok (.goto 4, 3) := by decide +kernel
theorem dX7_quarrelsIn_138 : decode cX7_quarrelsIn 138 = .ok (.iconst 0, 1) := by decide +kernel
theorem dX7_quarrelsIn_139 : decode cX7_quarrelsIn 139 = .ok (.invokestatic 157, 3) := by decide +kernel
theorem dX7_quarrelsIn_142 : decode cX7_quarrelsIn 142 = .ok (.iadd, 1) := by decide +kernel
theorem dX7_quarrelsIn_143 : decode cX7_quarrelsIn 143 = .ok (.iadd, 1) := by decide +kernel
theorem dX7_quarrelsIn_144 : decode cX7_quarrelsIn 144 = .ok (.istore_n 2, 1) := by decide +kernel
theorem dX7_quarrelsIn_145 : decode cX7_quarrelsIn 145 = .ok (.iinc 4 1, 3) := by decide +kernel
theorem dX7_quarrelsIn_148 : decode cX7_quarrelsIn 148 = .ok (.goto (-131), 3) := by decide +kernel
theorem dX7_quarrelsIn_151 : decode cX7_quarrelsIn 151 = .ok (.iinc 3 1, 3) := by decide +kernel
theorem dX7_quarrelsIn_154 : decode cX7_quarrelsIn 154 = .ok (.goto (-150), 3) := by decide +kernel
theorem dX7_quarrelsIn_157 : decode cX7_quarrelsIn 157 = .ok (.iload_n 2, 1) := by decide +kernel
theorem dX7_quarrelsIn_158 : decode cX7_quarrelsIn 158 = .ok (.ireturn, 1) := by decide +kernel
theorem dX7_quarrels_0 : decode cX7_quarrels 0 = .ok (.aload_n 0, 1) := by decide +kernel
theorem dX7_quarrels_1 : decode cX7_quarrels 1 = .ok (.iconst 0, 1) := by decide +kernel
theorem dX7_quarrels_2 : decode cX7_quarrels 2 = .ok (.invokevirtual 245, 3) := by decide +kernel
theorem dX7_quarrels_5 : decode cX7_quarrels 5 = .ok (.ireturn, 1) := by decide +kernel
theorem dX7_copy_0 : decode cX7_copy 0 = .ok (.iconst 0, 1) := by decide +kernel
theorem dX7_copy_1 : decode cX7_copy 1 = .ok (.istore_n 3, 1) := by decide +kernel
theorem dX7_copy_2 : decode cX7_copy 2 = .ok (.iload_n 3, 1) := by decide +kernel
theorem dX7_copy_3 : decode cX7_copy 3 = .ok (.bipush 100, 2) := by decide +kernel
theorem dX7_copy_5 : decode cX7_copy 5 = .ok (.if_icmp .ge 25, 3) := by decide +kernel
theorem dX7_copy_8 : decode cX7_copy 8 = .ok (.aload_n 0, 1) := by decide +kernel
theorem dX7_copy_9 : decode cX7_copy 9 = .ok (.getfield 7, 3) := by decide +kernel
theorem dX7_copy_12 : decode cX7_copy 12 = .ok (.iload_n 2, 1) := by decide +kernel
theorem dX7_copy_13 : decode cX7_copy 13 = .ok (.iload_n 3, 1) := by decide +kernel
theorem dX7_copy_14 : decode cX7_copy 14 = .ok (.iadd, 1) := by decide +kernel
theorem dX7_copy_15 : decode cX7_copy 15 = .ok (.aload_n 0, 1) := by decide +kernel
theorem dX7_copy_16 : decode cX7_copy 16 = .ok (.getfield 7, 3) := by decide +kernel
theorem dX7_copy_19 : decode cX7_copy 19 = .ok (.iload_n 1, 1) := by decide +kernel
theorem dX7_copy_20 : decode cX7_copy 20 = .ok (.iload_n 3, 1) := by decide +kernel
theorem dX7_copy_21 : decode cX7_copy 21 = .ok (.iadd, 1) := by decide +kernel
theorem dX7_copy_22 : decode cX7_copy 22 = .ok (.iaload, 1) := by decide +kernel
theorem dX7_copy_23 : decode cX7_copy 23 = .ok (.iastore, 1) := by decide +kernel
theorem dX7_copy_24 : decode cX7_copy 24 = .ok (.iinc 3 1, 3) := by decide +kernel
theorem dX7_copy_27 : decode cX7_copy 27 = .ok (.goto (-25), 3) := by decide +kernel
theorem dX7_copy_30 : decode cX7_copy 30 = .ok (.return_, 1) := by decide +kernel
theorem dX7_isFree_0 : decode cX7_isFree 0 = .ok (.aload_n 0, 1) := by decide +kernel
theorem dX7_isFree_1 : decode cX7_isFree 1 = .ok (.getfield 7, 3) := by decide +kernel
theorem dX7_isFree_4 : decode cX7_isFree 4 = .ok (.iload_n 1, 1) := by decide +kernel
theorem dX7_isFree_5 : decode cX7_isFree 5 = .ok (.iaload, 1) := by decide +kernel
theorem dX7_isFree_6 : decode cX7_isFree 6 = .ok (.ifCond .ne 16, 3) := by decide +kernel
theorem dX7_isFree_9 : decode cX7_isFree 9 = .ok (.aload_n 0, 1) := by decide +kernel
theorem dX7_isFree_10 : decode cX7_isFree 10 = .ok (.iconst 0, 1) := by decide +kernel
theorem dX7_isFree_11 : decode cX7_isFree 11 = .ok (.iload_n 1, 1) := by decide +kernel
theorem dX7_isFree_12 : decode cX7_isFree 12 = .ok (.invokevirtual 187, 3) := by decide +kernel
theorem dX7_isFree_15 : decode cX7_isFree 15 = .ok (.ifCond .ge 7, 3) := by decide +kernel
theorem dX7_isFree_18 : decode cX7_isFree 18 = .ok (.iconst 1, 1) := by decide +kernel
theorem dX7_isFree_19 : decode cX7_isFree 19 = .ok (.goto 4, 3) := by decide +kernel
theorem dX7_isFree_22 : decode cX7_isFree 22 = .ok (.iconst 0, 1) := by decide +kernel
theorem dX7_isFree_23 : decode cX7_isFree 23 = .ok (.ireturn, 1) := by decide +kernel
theorem dX7_goOn_0 : decode cX7_goOn 0 = .ok (.iload_n 1, 1) := by decide +kernel
theorem dX7_goOn_1 : decode cX7_goOn 1 = .ok (.iconst 1, 1) := by decide +kernel
theorem dX7_goOn_2 : decode cX7_goOn 2 = .ok (.isub, 1) := by decide +kernel
theorem dX7_goOn_3 : decode cX7_goOn 3 = .ok (.istore_n 2, 1) := by decide +kernel
theorem dX7_goOn_4 : decode cX7_goOn 4 = .ok (.iconst 0, 1) := by decide +kernel
theorem dX7_goOn_5 : decode cX7_goOn 5 = .ok (.istore_n 3, 1) := by decide +kernel
theorem dX7_goOn_6 : decode cX7_goOn 6 = .ok (.iload_n 2, 1) := by decide +kernel
theorem dX7_goOn_7 : decode cX7_goOn 7 = .ok (.ifCond .lt 92, 3) := by decide +kernel
theorem dX7_goOn_10 : decode cX7_goOn 10 = .ok (.iload_n 3, 1) := by decide +kernel
theorem dX7_goOn_11 : decode cX7_goOn 11 = .ok (.ifCond .ne 88, 3) := by decide +kernel
theorem dX7_goOn_14 : decode cX7_goOn 14 = .ok (.aload_n 0, 1) := by decide +kernel
theorem dX7_goOn_15 : decode cX7_goOn 15 = .ok (.getfield 54, 3) := by decide +kernel
theorem dX7_goOn_18 : decode cX7_goOn 18 = .ok (.iload_n 2, 1) := by decide +kernel
theorem dX7_goOn_19 : decode cX7_goOn 19 = .ok (.dup2, 1) := by decide +kernel
theorem dX7_goOn_20 : decode cX7_goOn 20 = .ok (.iaload, 1) := by decide +kernel
theorem dX7_goOn_21 : decode cX7_goOn 21 = .ok (.iconst 1, 1) := by decide +kernel
theorem dX7_goOn_22 : decode cX7_goOn 22 = .ok (.iadd, 1) := by decide +kernel
theorem dX7_goOn_23 : decode cX7_goOn 23 = .ok (.iastore, 1) := by decide +kernel
theorem dX7_goOn_24 : decode cX7_goOn 24 = .ok (.aload_n 0, 1) := by decide +kernel
theorem dX7_goOn_25 : decode cX7_goOn 25 = .ok (.getfield 54, 3) := by decide +kernel
theorem dX7_goOn_28 : decode cX7_goOn 28 = .ok (.iload_n 2, 1) := by decide +kernel
theorem dX7_goOn_29 : decode cX7_goOn 29 = .ok (.iaload, 1) := by decide +kernel
theorem dX7_goOn_30 : decode cX7_goOn 30 = .ok (.aload_n 0, 1) := by decide +kernel
theorem dX7_goOn_31 : decode cX7_goOn 31 = .ok (.getfield 36, 3) := by decide +kernel
theorem dX7_goOn_34 : decode cX7_goOn 34 = .ok (.iconst 0, 1) := by decide +kernel
theorem dX7_goOn_35 : decode cX7_goOn 35 = .ok (.iaload, 1) := by decide +kernel
theorem dX7_goOn_36 : decode cX7_goOn 36 = .ok (.if_icmp .ge 24, 3) := by decide +kernel
theorem dX7_goOn_39 : decode cX7_goOn 39 = .ok (.aload_n 0, 1) := by decide +kernel
theorem dX7_goOn_40 : decode cX7_goOn 40 = .ok (.iload_n 2, 1) := by decide +kernel
theorem dX7_goOn_41 : decode cX7_goOn 41 = .ok (.invokevirtual 248, 3) := by decide +kernel
theorem dX7_goOn_44 : decode cX7_goOn 44 = .ok (.ifCond .ne 16, 3) := by decide +kernel
theorem dX7_goOn_47 : decode cX7_goOn 47 = .ok (.aload_n 0, 1) := by decide +kernel
theorem dX7_goOn_48 : decode cX7_goOn 48 = .ok (.getfield 54, 3) := by decide +kernel
theorem dX7_goOn_51 : decode cX7_goOn 51 = .ok (.iload_n 2, 1) := by decide +kernel
theorem dX7_goOn_52 : decode cX7_goOn 52 = .ok (.dup2, 1) := by decide +kernel
theorem dX7_goOn_53 : decode cX7_goOn 53 = .ok (.iaload, 1) := by decide +kernel
theorem dX7_goOn_54 : decode cX7_goOn 54 = .ok (.iconst 1, 1) := by decide +kernel
theorem dX7_goOn_55 : decode cX7_goOn 55 = .ok (.iadd, 1) := by decide +kernel
theorem dX7_goOn_56 : decode cX7_goOn 56 = .ok (.iastore, 1) := by decide +kernel
theorem dX7_goOn_57 : decode cX7_goOn 57 = .ok (.goto (-33), 3) := by decide +kernel
theorem dX7_goOn_60 : decode cX7_goOn 60 = .ok (.aload_n 0, 1) := by decide +kernel
theorem dX7_goOn_61 : decode cX7_goOn 61 = .ok (.getfield 54, 3) := by decide +kernel
theorem dX7_goOn_64 : decode cX7_goOn 64 = .ok (.iload_n 2, 1) := by decide +kernel
theorem dX7_goOn_65 : decode cX7_goOn 65 = .ok (.iaload, 1) := by decide +kernel
theorem dX7_goOn_66 : decode cX7_goOn 66 = .ok (.aload_n 0, 1) := by decide +kernel
theorem dX7_goOn_67 : decode cX7_goOn 67 = .ok (.getfield 36, 3) := by decide +kernel
theorem dX7_goOn_70 : decode cX7_goOn 70 = .ok (.iconst 0, 1) := by decide +kernel
theorem dX7_goOn_71 : decode cX7_goOn 71 = .ok (.iaload, 1) := by decide +kernel
theorem dX7_goOn_72 : decode cX7_goOn 72 = .ok (.if_icmp .ge 7, 3) := by decide +kernel
theorem dX7_goOn_75 : decode cX7_goOn 75 = .ok (.iconst 1, 1) := by decide +kernel
theorem dX7_goOn_76 : decode cX7_goOn 76 = .ok (.goto 4, 3) := by decide +kernel
theorem dX7_goOn_79 : decode cX7_goOn 79 = .ok (.iconst 0, 1) := by decide +kernel
theorem dX7_goOn_80 : decode cX7_goOn 80 = .ok (.istore_n 3, 1) := by decide +kernel
theorem dX7_goOn_81 : decode cX7_goOn 81 = .ok (.iload_n 2, 1) := by decide +kernel
theorem dX7_goOn_82 : decode cX7_goOn 82 = .ok (.iload_n 3, 1) := by decide +kernel
theorem dX7_goOn_83 : decode cX7_goOn 83 = .ok (.ifCond .ne 7, 3) := by decide +kernel
theorem dX7_goOn_86 : decode cX7_goOn 86 = .ok (.iconst 1, 1) := by decide +kernel
theorem dX7_goOn_87 : decode cX7_goOn 87 = .ok (.goto 4, 3) := by decide +kernel
theorem dX7_goOn_90 : decode cX7_goOn 90 = .ok (.iconst 0, 1) := by decide +kernel
theorem dX7_goOn_91 : decode cX7_goOn 91 = .ok (.invokestatic 157, 3) := by decide +kernel
theorem dX7_goOn_94 : decode cX7_goOn 94 = .ok (.isub, 1) := by decide +kernel
theorem dX7_goOn_95 : decode cX7_goOn 95 = .ok (.istore_n 2, 1) := by decide +kernel
theorem dX7_goOn_96 : decode cX7_goOn 96 = .ok (.goto (-90), 3) := by decide +kernel
theorem dX7_goOn_99 : decode cX7_goOn 99 = .ok (.iload_n 3, 1) := by decide +kernel
theorem dX7_goOn_100 : decode cX7_goOn 100 = .ok (.ifCond .eq 18, 3) := by decide +kernel
theorem dX7_goOn_103 : decode cX7_goOn 103 = .ok (.aload_n 0, 1) := by decide +kernel
theorem dX7_goOn_104 : decode cX7_goOn 104 = .ok (.iload_n 2, 1) := by decide +kernel
theorem dX7_goOn_105 : decode cX7_goOn 105 = .ok (.iconst 1, 1) := by decide +kernel
theorem dX7_goOn_106 : decode cX7_goOn 106 = .ok (.iadd, 1) := by decide +kernel
theorem dX7_goOn_107 : decode cX7_goOn 107 = .ok (.iload_n 1, 1) := by decide +kernel
theorem dX7_goOn_108 : decode cX7_goOn 108 = .ok (.invokevirtual 251, 3) := by decide +kernel
theorem dX7_goOn_111 : decode cX7_goOn 111 = .ok (.ifCond .eq 7, 3) := by decide +kernel
theorem dX7_goOn_114 : decode cX7_goOn 114 = .ok (.iconst 1, 1) := by decide +kernel
theorem dX7_goOn_115 : decode cX7_goOn 115 = .ok (.goto 4, 3) := by decide +kernel
theorem dX7_goOn_118 : decode cX7_goOn 118 = .ok (.iconst 0, 1) := by decide +kernel
theorem dX7_goOn_119 : decode cX7_goOn 119 = .ok (.ireturn, 1) := by decide +kernel
theorem dX7_isUnlike_0 : decode cX7_isUnlike 0 = .ok (.aload_n 0, 1) := by decide +kernel
theorem dX7_isUnlike_1 : decode cX7_isUnlike 1 = .ok (.aload_n 0, 1) := by decide +kernel
theorem dX7_isUnlike_2 : decode cX7_isUnlike 2 = .ok (.getfield 54, 3) := by decide +kernel
theorem dX7_isUnlike_5 : decode cX7_isUnlike 5 = .ok (.iload_n 1, 1) := by decide +kernel
theorem dX7_isUnlike_6 : decode cX7_isUnlike 6 = .ok (.iaload, 1) := by decide +kernel
theorem dX7_isUnlike_7 : decode cX7_isUnlike 7 = .ok (.invokevirtual 254, 3) := by decide +kernel
theorem dX7_isUnlike_10 : decode cX7_isUnlike 10 = .ok (.istore_n 2, 1) := by decide +kernel
theorem dX7_isUnlike_11 : decode cX7_isUnlike 11 = .ok (.iconst 0, 1) := by decide +kernel
theorem dX7_isUnlike_12 : decode cX7_isUnlike 12 = .ok (.istore_n 3, 1) := by decide +kernel
theorem dX7_isUnlike_13 : decode cX7_isUnlike 13 = .ok (.iload_n 3, 1) := by decide +kernel
theorem dX7_isUnlike_14 : decode cX7_isUnlike 14 = .ok (.iload_n 1, 1) := by decide +kernel
theorem dX7_isUnlike_15 : decode cX7_isUnlike 15 = .ok (.if_icmp .ge 34, 3) := by decide +kernel
theorem dX7_isUnlike_18 : decode cX7_isUnlike 18 = .ok (.iload_n 2, 1) := by decide +kernel
theorem dX7_isUnlike_19 : decode cX7_isUnlike 19 = .ok (.ifCond .eq 22, 3) := by decide +kernel
theorem dX7_isUnlike_22 : decode cX7_isUnlike 22 = .ok (.aload_n 0, 1) := by decide +kernel
theorem dX7_isUnlike_23 : decode cX7_isUnlike 23 = .ok (.getfield 54, 3) := by decide +kernel
theorem dX7_isUnlike_26 : decode cX7_isUnlike 26 = .ok (.iload_n 3, 1) := by decide +kernel
theorem dX7_isUnlike_27 : decode cX7_isUnlike 27 = .ok (.iaload, 1) := by decide +kernel
theorem dX7_isUnlike_28 : decode cX7_isUnlike 28 = .ok (.aload_n 0, 1) := by decide +kernel
theorem dX7_isUnlike_29 : decode cX7_isUnlike 29 = .ok (.getfield 54, 3) := by decide +kernel
theorem dX7_isUnlike_32 : decode cX7_isUnlike 32 = .ok (.iload_n 1, 1) := by decide +kernel
theorem dX7_isUnlike_33 : decode cX7_isUnlike 33 = .ok (.iaload, 1) := by decide +kernel
theorem dX7_isUnlike_34 : decode cX7_isUnlike 34 = .ok (.if_icmp .eq 7, 3) := by decide +kernel
theorem dX7_isUnlike_37 : decode cX7_isUnlike 37 = .ok (.iconst 1, 1) := by decide +kernel
theorem dX7_isUnlike_38 : decode cX7_isUnlike 38 = .ok (.goto 4, 3) := by decide +kernel
theorem dX7_isUnlike_41 : decode cX7_isUnlike 41 = .ok (.iconst 0, 1) := by decide +kernel
theorem dX7_isUnlike_42 : decode cX7_isUnlike 42 = .ok (.istore_n 2, 1) := by decide +kernel
theorem dX7_isUnlike_43 : decode cX7_isUnlike 43 = .ok (.iinc 3 1, 3) := by decide +kernel
theorem dX7_isUnlike_46 : decode cX7_isUnlike 46 = .ok (.goto (-33), 3) := by decide +kernel
theorem dX7_isUnlike_49 : decode cX7_isUnlike 49 = .ok (.iload_n 2, 1) := by decide +kernel
theorem dX7_isUnlike_50 : decode cX7_isUnlike 50 = .ok (.ireturn, 1) := by decide +kernel
theorem dX7_fill_0 : decode cX7_fill 0 = .ok (.iload_n 1, 1) := by decide +kernel
theorem dX7_fill_1 : decode cX7_fill 1 = .ok (.istore_n 3, 1) := by decide +kernel
theorem dX7_fill_2 : decode cX7_fill 2 = .ok (.iload_n 3, 1) := by decide +kernel
theorem dX7_fill_3 : decode cX7_fill 3 = .ok (.iload_n 2, 1) := by decide +kernel
theorem dX7_fill_4 : decode cX7_fill 4 = .ok (.if_icmp .ge 52, 3) := by decide +kernel
theorem dX7_fill_7 : decode cX7_fill 7 = .ok (.aload_n 0, 1) := by decide +kernel
theorem dX7_fill_8 : decode cX7_fill 8 = .ok (.getfield 54, 3) := by decide +kernel
theorem dX7_fill_11 : decode cX7_fill 11 = .ok (.iload_n 3, 1) := by decide +kernel
theorem dX7_fill_12 : decode cX7_fill 12 = .ok (.iconst 0, 1) := by decide +kernel
theorem dX7_fill_13 : decode cX7_fill 13 = .ok (.iastore, 1) := by decide +kernel
theorem dX7_fill_14 : decode cX7_fill 14 = .ok (.aload_n 0, 1) := by decide +kernel
theorem dX7_fill_15 : decode cX7_fill 15 = .ok (.getfield 54, 3) := by decide +kernel
theorem dX7_fill_18 : decode cX7_fill 18 = .ok (.iload_n 3, 1) := by decide +kernel
theorem dX7_fill_19 : decode cX7_fill 19 = .ok (.iaload, 1) := by decide +kernel
theorem dX7_fill_20 : decode cX7_fill 20 = .ok (.aload_n 0, 1) := by decide +kernel
theorem dX7_fill_21 : decode cX7_fill 21 = .ok (.getfield 36, 3) := by decide +kernel
theorem dX7_fill_24 : decode cX7_fill 24 = .ok (.iconst 0, 1) := by decide +kernel
theorem dX7_fill_25 : decode cX7_fill 25 = .ok (.iaload, 1) := by decide +kernel
theorem dX7_fill_26 : decode cX7_fill 26 = .ok (.if_icmp .ge 24, 3) := by decide +kernel
theorem dX7_fill_29 : decode cX7_fill 29 = .ok (.aload_n 0, 1) := by decide +kernel
theorem dX7_fill_30 : decode cX7_fill 30 = .ok (.iload_n 3, 1) := by decide +kernel
theorem dX7_fill_31 : decode cX7_fill 31 = .ok (.invokevirtual 248, 3) := by decide +kernel
theorem dX7_fill_34 : decode cX7_fill 34 = .ok (.ifCond .ne 16, 3) := by decide +kernel
theorem dX7_fill_37 : decode cX7_fill 37 = .ok (.aload_n 0, 1) := by decide +kernel
theorem dX7_fill_38 : decode cX7_fill 38 = .ok (.getfield 54, 3) := by decide +kernel
theorem dX7_fill_41 : decode cX7_fill 41 = .ok (.iload_n 3, 1) := by decide +kernel
theorem dX7_fill_42 : decode cX7_fill 42 = .ok (.dup2, 1) := by decide +kernel
theorem dX7_fill_43 : decode cX7_fill 43 = .ok (.iaload, 1) := by decide +kernel
theorem dX7_fill_44 : decode cX7_fill 44 = .ok (.iconst 1, 1) := by decide +kernel
theorem dX7_fill_45 : decode cX7_fill 45 = .ok (.iadd, 1) := by decide +kernel
theorem dX7_fill_46 : decode cX7_fill 46 = .ok (.iastore, 1) := by decide +kernel
theorem dX7_fill_47 : decode cX7_fill 47 = .ok (.goto (-33), 3) := by decide +kernel
theorem dX7_fill_50 : decode cX7_fill 50 = .ok (.iinc 3 1, 3) := by decide +kernel
theorem dX7_fill_53 : decode cX7_fill 53 = .ok (.goto (-51), 3) := by decide +kernel
theorem dX7_fill_56 : decode cX7_fill 56 = .ok (.iconst 1, 1) := by decide +kernel
theorem dX7_fill_57 : decode cX7_fill 57 = .ok (.ireturn, 1) := by decide +kernel
theorem dX7_findLaying_0 : decode cX7_findLaying 0 = .ok (.aload_n 0, 1) := by decide +kernel
theorem dX7_findLaying_1 : decode cX7_findLaying 1 = .ok (.iconst 0, 1) := by decide +kernel
theorem dX7_findLaying_2 : decode cX7_findLaying 2 = .ok (.bipush 100, 2) := by decide +kernel
theorem dX7_findLaying_4 : decode cX7_findLaying 4 = .ok (.invokevirtual 257, 3) := by decide +kernel
theorem dX7_findLaying_7 : decode cX7_findLaying 7 = .ok (.iconst 0, 1) := by decide +kernel
theorem dX7_findLaying_8 : decode cX7_findLaying 8 = .ok (.istore_n 1, 1) := by decide +kernel
theorem dX7_findLaying_9 : decode cX7_findLaying 9 = .ok (.iconst 0, 1) := by decide +kernel
theorem dX7_findLaying_10 : decode cX7_findLaying 10 = .ok (.istore_n 2, 1) := by decide +kernel
theorem dX7_findLaying_11 : decode cX7_findLaying 11 = .ok (.iconst 0, 1) := by decide +kernel
theorem dX7_findLaying_12 : decode cX7_findLaying 12 = .ok (.istore_n 3, 1) := by decide +kernel
theorem dX7_findLaying_13 : decode cX7_findLaying 13 = .ok (.iload_n 3, 1) := by decide +kernel
theorem dX7_findLaying_14 : decode cX7_findLaying 14 = .ok (.aload_n 0, 1) := by decide +kernel
theorem dX7_findLaying_15 : decode cX7_findLaying 15 = .ok (.getfield 36, 3) := by decide +kernel
theorem dX7_findLaying_18 : decode cX7_findLaying 18 = .ok (.iconst 1, 1) := by decide +kernel
theorem dX7_findLaying_19 : decode cX7_findLaying 19 = .ok (.iaload, 1) := by decide +kernel
theorem dX7_findLaying_20 : decode cX7_findLaying 20 = .ok (.if_icmp .ge 28, 3) := by decide +kernel
theorem dX7_findLaying_23 : decode cX7_findLaying 23 = .ok (.aload_n 0, 1) := by decide +kernel
theorem dX7_findLaying_24 : decode cX7_findLaying 24 = .ok (.iconst 0, 1) := by decide +kernel
theorem dX7_findLaying_25 : decode cX7_findLaying 25 = .ok (.iload_n 3, 1) := by decide +kernel
theorem dX7_findLaying_26 : decode cX7_findLaying 26 = .ok (.invokevirtual 154, 3) := by decide +kernel
theorem dX7_findLaying_29 : decode cX7_findLaying 29 = .ok (.ifCond .eq 13, 3) := by decide +kernel
theorem dX7_findLaying_32 : decode cX7_findLaying 32 = .ok (.aload_n 0, 1) := by decide +kernel
theorem dX7_findLaying_33 : decode cX7_findLaying 33 = .ok (.getfield 51, 3) := by decide +kernel
theorem dX7_findLaying_36 : decode cX7_findLaying 36 = .ok (.iload_n 1, 1) := by decide +kernel
theorem dX7_findLaying_37 : decode cX7_findLaying 37 = .ok (.iload_n 3, 1) := by decide +kernel
theorem dX7_findLaying_38 : decode cX7_findLaying 38 = .ok (.iastore, 1) := by decide +kernel
theorem dX7_findLaying_39 : decode cX7_findLaying 39 = .ok (.iinc 1 1, 3) := by decide +kernel
theorem dX7_findLaying_42 : decode cX7_findLaying 42 = .ok (.iinc 3 1, 3) := by decide +kernel
end
section
theorem dX7_findLaying_45 : decode cX7_findLaying 45 = .ok (.goto (-32), 3) := by decide +kernel
theorem dX7_findLaying_48 : decode cX7_findLaying 48 = .ok (.iconst 0, 1) := by decide +kernel
theorem dX7_findLaying_49 : decode cX7_findLaying 49 = .ok (.istore_n 3, 1) := by decide +kernel
theorem dX7_findLaying_50 : decode cX7_findLaying 50 = .ok (.iload_n 3, 1) := by decide +kernel
theorem dX7_findLaying_51 : decode cX7_findLaying 51 = .ok (.aload_n 0, 1) := by decide +kernel
theorem dX7_findLaying_52 : decode cX7_findLaying 52 = .ok (.getfield 36, 3) := by decide +kernel
theorem dX7_findLaying_55 : decode cX7_findLaying 55 = .ok (.iconst 0, 1) := by decide +kernel
theorem dX7_findLaying_56 : decode cX7_findLaying 56 = .ok (.iaload, 1) := by decide +kernel
theorem dX7_findLaying_57 : decode cX7_findLaying 57 = .ok (.if_icmp .ge 20, 3) := by decide +kernel
theorem dX7_findLaying_60 : decode cX7_findLaying 60 = .ok (.iload_n 2, 1) := by decide +kernel
theorem dX7_findLaying_61 : decode cX7_findLaying 61 = .ok (.aload_n 0, 1) := by decide +kernel
theorem dX7_findLaying_62 : decode cX7_findLaying 62 = .ok (.iload_n 3, 1) := by decide +kernel
theorem dX7_findLaying_63 : decode cX7_findLaying 63 = .ok (.invokevirtual 254, 3) := by decide +kernel
theorem dX7_findLaying_66 : decode cX7_findLaying 66 = .ok (.invokestatic 157, 3) := by decide +kernel
theorem dX7_findLaying_69 : decode cX7_findLaying 69 = .ok (.iadd, 1) := by decide +kernel
theorem dX7_findLaying_70 : decode cX7_findLaying 70 = .ok (.istore_n 2, 1) := by decide +kernel
theorem dX7_findLaying_71 : decode cX7_findLaying 71 = .ok (.iinc 3 1, 3) := by decide +kernel
theorem dX7_findLaying_74 : decode cX7_findLaying 74 = .ok (.goto (-24), 3) := by decide +kernel
theorem dX7_findLaying_77 : decode cX7_findLaying 77 = .ok (.iload_n 1, 1) := by decide +kernel
theorem dX7_findLaying_78 : decode cX7_findLaying 78 = .ok (.iload_n 2, 1) := by decide +kernel
theorem dX7_findLaying_79 : decode cX7_findLaying 79 = .ok (.if_icmp .le 5, 3) := by decide +kernel
theorem dX7_findLaying_82 : decode cX7_findLaying 82 = .ok (.iconst 0, 1) := by decide +kernel
theorem dX7_findLaying_83 : decode cX7_findLaying 83 = .ok (.ireturn, 1) := by decide +kernel
theorem dX7_findLaying_84 : decode cX7_findLaying 84 = .ok (.aload_n 0, 1) := by decide +kernel
theorem dX7_findLaying_85 : decode cX7_findLaying 85 = .ok (.iconst (-1), 1) := by decide +kernel
theorem dX7_findLaying_86 : decode cX7_findLaying 86 = .ok (.putfield 261, 3) := by decide +kernel
theorem dX7_findLaying_89 : decode cX7_findLaying 89 = .ok (.aload_n 0, 1) := by decide +kernel
theorem dX7_findLaying_90 : decode cX7_findLaying 90 = .ok (.iconst 0, 1) := by decide +kernel
theorem dX7_findLaying_91 : decode cX7_findLaying 91 = .ok (.iload_n 1, 1) := by decide +kernel
theorem dX7_findLaying_92 : decode cX7_findLaying 92 = .ok (.invokevirtual 251, 3) := by decide +kernel
theorem dX7_findLaying_95 : decode cX7_findLaying 95 = .ok (.istore_n 3, 1) := by decide +kernel
theorem dX7_findLaying_96 : decode cX7_findLaying 96 = .ok (.iload_n 3, 1) := by decide +kernel
theorem dX7_findLaying_97 : decode cX7_findLaying 97 = .ok (.ifCond .eq 121, 3) := by decide +kernel
theorem dX7_findLaying_100 : decode cX7_findLaying 100 = .ok (.iconst 0, 1) := by decide +kernel
theorem dX7_findLaying_101 : decode cX7_findLaying 101 = .ok (.istore 4, 2) := by decide +kernel
theorem dX7_findLaying_103 : decode cX7_findLaying 103 = .ok (.iload 4, 2) := by decide +kernel
theorem dX7_findLaying_105 : decode cX7_findLaying 105 = .ok (.iload_n 1, 1) := by decide +kernel
theorem dX7_findLaying_106 : decode cX7_findLaying 106 = .ok (.if_icmp .ge 32, 3) := by decide +kernel
theorem dX7_findLaying_109 : decode cX7_findLaying 109 = .ok (.aload_n 0, 1) := by decide +kernel
theorem dX7_findLaying_110 : decode cX7_findLaying 110 = .ok (.getfield 7, 3) := by decide +kernel
theorem dX7_findLaying_113 : decode cX7_findLaying 113 = .ok (.sipush 140, 3) := by decide +kernel
theorem dX7_findLaying_116 : decode cX7_findLaying 116 = .ok (.aload_n 0, 1) := by decide +kernel
theorem dX7_findLaying_117 : decode cX7_findLaying 117 = .ok (.getfield 51, 3) := by decide +kernel
theorem dX7_findLaying_120 : decode cX7_findLaying 120 = .ok (.iload 4, 2) := by decide +kernel
theorem dX7_findLaying_122 : decode cX7_findLaying 122 = .ok (.iaload, 1) := by decide +kernel
theorem dX7_findLaying_123 : decode cX7_findLaying 123 = .ok (.iadd, 1) := by decide +kernel
theorem dX7_findLaying_124 : decode cX7_findLaying 124 = .ok (.aload_n 0, 1) := by decide +kernel
theorem dX7_findLaying_125 : decode cX7_findLaying 125 = .ok (.getfield 54, 3) := by decide +kernel
theorem dX7_findLaying_128 : decode cX7_findLaying 128 = .ok (.iload 4, 2) := by decide +kernel
theorem dX7_findLaying_130 : decode cX7_findLaying 130 = .ok (.iaload, 1) := by decide +kernel
theorem dX7_findLaying_131 : decode cX7_findLaying 131 = .ok (.iastore, 1) := by decide +kernel
theorem dX7_findLaying_132 : decode cX7_findLaying 132 = .ok (.iinc 4 1, 3) := by decide +kernel
theorem dX7_findLaying_135 : decode cX7_findLaying 135 = .ok (.goto (-32), 3) := by decide +kernel
theorem dX7_findLaying_138 : decode cX7_findLaying 138 = .ok (.aload_n 0, 1) := by decide +kernel
theorem dX7_findLaying_139 : decode cX7_findLaying 139 = .ok (.bipush 100, 2) := by decide +kernel
theorem dX7_findLaying_141 : decode cX7_findLaying 141 = .ok (.invokevirtual 245, 3) := by decide +kernel
theorem dX7_findLaying_144 : decode cX7_findLaying 144 = .ok (.istore 4, 2) := by decide +kernel
theorem dX7_findLaying_146 : decode cX7_findLaying 146 = .ok (.aload_n 0, 1) := by decide +kernel
theorem dX7_findLaying_147 : decode cX7_findLaying 147 = .ok (.getfield 261, 3) := by decide +kernel
theorem dX7_findLaying_150 : decode cX7_findLaying 150 = .ok (.ifCond .lt 12, 3) := by decide +kernel
theorem dX7_findLaying_153 : decode cX7_findLaying 153 = .ok (.iload 4, 2) := by decide +kernel
theorem dX7_findLaying_155 : decode cX7_findLaying 155 = .ok (.aload_n 0, 1) := by decide +kernel
theorem dX7_findLaying_156 : decode cX7_findLaying 156 = .ok (.getfield 261, 3) := by decide +kernel
theorem dX7_findLaying_159 : decode cX7_findLaying 159 = .ok (.if_icmp .ge 38, 3) := by decide +kernel
theorem dX7_findLaying_162 : decode cX7_findLaying 162 = .ok (.aload_n 0, 1) := by decide +kernel
theorem dX7_findLaying_163 : decode cX7_findLaying 163 = .ok (.iload 4, 2) := by decide +kernel
theorem dX7_findLaying_165 : decode cX7_findLaying 165 = .ok (.putfield 261, 3) := by decide +kernel
theorem dX7_findLaying_168 : decode cX7_findLaying 168 = .ok (.iconst 0, 1) := by decide +kernel
theorem dX7_findLaying_169 : decode cX7_findLaying 169 = .ok (.istore 5, 2) := by decide +kernel
theorem dX7_findLaying_171 : decode cX7_findLaying 171 = .ok (.iload 5, 2) := by decide +kernel
theorem dX7_findLaying_173 : decode cX7_findLaying 173 = .ok (.iload_n 1, 1) := by decide +kernel
theorem dX7_findLaying_174 : decode cX7_findLaying 174 = .ok (.if_icmp .ge 23, 3) := by decide +kernel
theorem dX7_findLaying_177 : decode cX7_findLaying 177 = .ok (.aload_n 0, 1) := by decide +kernel
theorem dX7_findLaying_178 : decode cX7_findLaying 178 = .ok (.getfield 57, 3) := by decide +kernel
theorem dX7_findLaying_181 : decode cX7_findLaying 181 = .ok (.iload 5, 2) := by decide +kernel
theorem dX7_findLaying_183 : decode cX7_findLaying 183 = .ok (.aload_n 0, 1) := by decide +kernel
theorem dX7_findLaying_184 : decode cX7_findLaying 184 = .ok (.getfield 54, 3) := by decide +kernel
theorem dX7_findLaying_187 : decode cX7_findLaying 187 = .ok (.iload 5, 2) := by decide +kernel
theorem dX7_findLaying_189 : decode cX7_findLaying 189 = .ok (.iaload, 1) := by decide +kernel
theorem dX7_findLaying_190 : decode cX7_findLaying 190 = .ok (.iastore, 1) := by decide +kernel
theorem dX7_findLaying_191 : decode cX7_findLaying 191 = .ok (.iinc 5 1, 3) := by decide +kernel
theorem dX7_findLaying_194 : decode cX7_findLaying 194 = .ok (.goto (-23), 3) := by decide +kernel
theorem dX7_findLaying_197 : decode cX7_findLaying 197 = .ok (.iload_n 1, 1) := by decide +kernel
theorem dX7_findLaying_198 : decode cX7_findLaying 198 = .ok (.ifCond .le 15, 3) := by decide +kernel
theorem dX7_findLaying_201 : decode cX7_findLaying 201 = .ok (.aload_n 0, 1) := by decide +kernel
theorem dX7_findLaying_202 : decode cX7_findLaying 202 = .ok (.iload_n 1, 1) := by decide +kernel
theorem dX7_findLaying_203 : decode cX7_findLaying 203 = .ok (.invokevirtual 264, 3) := by decide +kernel
theorem dX7_findLaying_206 : decode cX7_findLaying 206 = .ok (.ifCond .eq 7, 3) := by decide +kernel
theorem dX7_findLaying_209 : decode cX7_findLaying 209 = .ok (.iconst 1, 1) := by decide +kernel
theorem dX7_findLaying_210 : decode cX7_findLaying 210 = .ok (.goto 4, 3) := by decide +kernel
theorem dX7_findLaying_213 : decode cX7_findLaying 213 = .ok (.iconst 0, 1) := by decide +kernel
theorem dX7_findLaying_214 : decode cX7_findLaying 214 = .ok (.istore_n 3, 1) := by decide +kernel
theorem dX7_findLaying_215 : decode cX7_findLaying 215 = .ok (.goto (-119), 3) := by decide +kernel
theorem dX7_findLaying_218 : decode cX7_findLaying 218 = .ok (.iconst 1, 1) := by decide +kernel
theorem dX7_findLaying_219 : decode cX7_findLaying 219 = .ok (.ireturn, 1) := by decide +kernel
theorem dX7_laying_0 : decode cX7_laying 0 = .ok (.iload_n 1, 1) := by decide +kernel
theorem dX7_laying_1 : decode cX7_laying 1 = .ok (.iconst (-1), 1) := by decide +kernel
theorem dX7_laying_2 : decode cX7_laying 2 = .ok (.if_icmp .eq 14, 3) := by decide +kernel
theorem dX7_laying_5 : decode cX7_laying 5 = .ok (.aload_n 0, 1) := by decide +kernel
theorem dX7_laying_6 : decode cX7_laying 6 = .ok (.iload_n 1, 1) := by decide +kernel
theorem dX7_laying_7 : decode cX7_laying 7 = .ok (.invokevirtual 190, 3) := by decide +kernel
theorem dX7_laying_10 : decode cX7_laying 10 = .ok (.ifCond .ne 6, 3) := by decide +kernel
theorem dX7_laying_13 : decode cX7_laying 13 = .ok (.ldc 186, 2) := by decide +kernel
theorem dX7_laying_15 : decode cX7_laying 15 = .ok (.ireturn, 1) := by decide +kernel
theorem dX7_laying_16 : decode cX7_laying 16 = .ok (.aload_n 0, 1) := by decide +kernel
theorem dX7_laying_17 : decode cX7_laying 17 = .ok (.invokevirtual 267, 3) := by decide +kernel
theorem dX7_laying_20 : decode cX7_laying 20 = .ok (.ifCond .ne 5, 3) := by decide +kernel
theorem dX7_laying_23 : decode cX7_laying 23 = .ok (.iconst (-1), 1) := by decide +kernel
theorem dX7_laying_24 : decode cX7_laying 24 = .ok (.ireturn, 1) := by decide +kernel
theorem dX7_laying_25 : decode cX7_laying 25 = .ok (.iload_n 1, 1) := by decide +kernel
theorem dX7_laying_26 : decode cX7_laying 26 = .ok (.ifCond .ge 8, 3) := by decide +kernel
theorem dX7_laying_29 : decode cX7_laying 29 = .ok (.aload_n 0, 1) := by decide +kernel
theorem dX7_laying_30 : decode cX7_laying 30 = .ok (.getfield 261, 3) := by decide +kernel
theorem dX7_laying_33 : decode cX7_laying 33 = .ok (.ireturn, 1) := by decide +kernel
theorem dX7_laying_34 : decode cX7_laying 34 = .ok (.iconst 0, 1) := by decide +kernel
theorem dX7_laying_35 : decode cX7_laying 35 = .ok (.istore_n 2, 1) := by decide +kernel
theorem dX7_laying_36 : decode cX7_laying 36 = .ok (.iconst 0, 1) := by decide +kernel
theorem dX7_laying_37 : decode cX7_laying 37 = .ok (.istore_n 3, 1) := by decide +kernel
theorem dX7_laying_38 : decode cX7_laying 38 = .ok (.iload_n 3, 1) := by decide +kernel
theorem dX7_laying_39 : decode cX7_laying 39 = .ok (.iload_n 1, 1) := by decide +kernel
theorem dX7_laying_40 : decode cX7_laying 40 = .ok (.if_icmp .ge 21, 3) := by decide +kernel
theorem dX7_laying_43 : decode cX7_laying 43 = .ok (.iload_n 2, 1) := by decide +kernel
theorem dX7_laying_44 : decode cX7_laying 44 = .ok (.aload_n 0, 1) := by decide +kernel
theorem dX7_laying_45 : decode cX7_laying 45 = .ok (.iconst 0, 1) := by decide +kernel
theorem dX7_laying_46 : decode cX7_laying 46 = .ok (.iload_n 3, 1) := by decide +kernel
theorem dX7_laying_47 : decode cX7_laying 47 = .ok (.invokevirtual 154, 3) := by decide +kernel
theorem dX7_laying_50 : decode cX7_laying 50 = .ok (.invokestatic 157, 3) := by decide +kernel
theorem dX7_laying_53 : decode cX7_laying 53 = .ok (.iadd, 1) := by decide +kernel
theorem dX7_laying_54 : decode cX7_laying 54 = .ok (.istore_n 2, 1) := by decide +kernel
theorem dX7_laying_55 : decode cX7_laying 55 = .ok (.iinc 3 1, 3) := by decide +kernel
theorem dX7_laying_58 : decode cX7_laying 58 = .ok (.goto (-20), 3) := by decide +kernel
theorem dX7_laying_61 : decode cX7_laying 61 = .ok (.aload_n 0, 1) := by decide +kernel
theorem dX7_laying_62 : decode cX7_laying 62 = .ok (.iconst 0, 1) := by decide +kernel
theorem dX7_laying_63 : decode cX7_laying 63 = .ok (.iload_n 1, 1) := by decide +kernel
theorem dX7_laying_64 : decode cX7_laying 64 = .ok (.invokevirtual 154, 3) := by decide +kernel
theorem dX7_laying_67 : decode cX7_laying 67 = .ok (.ifCond .eq 12, 3) := by decide +kernel
theorem dX7_laying_70 : decode cX7_laying 70 = .ok (.aload_n 0, 1) := by decide +kernel
theorem dX7_laying_71 : decode cX7_laying 71 = .ok (.getfield 57, 3) := by decide +kernel
theorem dX7_laying_74 : decode cX7_laying 74 = .ok (.iload_n 2, 1) := by decide +kernel
theorem dX7_laying_75 : decode cX7_laying 75 = .ok (.iaload, 1) := by decide +kernel
theorem dX7_laying_76 : decode cX7_laying 76 = .ok (.goto 4, 3) := by decide +kernel
theorem dX7_laying_79 : decode cX7_laying 79 = .ok (.iconst (-1), 1) := by decide +kernel
theorem dX7_laying_80 : decode cX7_laying 80 = .ok (.ireturn, 1) := by decide +kernel
theorem dX7_daysTill_0 : decode cX7_daysTill 0 = .ok (.aload_n 0, 1) := by decide +kernel
theorem dX7_daysTill_1 : decode cX7_daysTill 1 = .ok (.iload_n 2, 1) := by decide +kernel
theorem dX7_daysTill_2 : decode cX7_daysTill 2 = .ok (.iload_n 1, 1) := by decide +kernel
theorem dX7_daysTill_3 : decode cX7_daysTill 3 = .ok (.invokevirtual 201, 3) := by decide +kernel
theorem dX7_daysTill_6 : decode cX7_daysTill 6 = .ok (.istore_n 3, 1) := by decide +kernel
theorem dX7_daysTill_7 : decode cX7_daysTill 7 = .ok (.aload_n 0, 1) := by decide +kernel
theorem dX7_daysTill_8 : decode cX7_daysTill 8 = .ok (.getfield 7, 3) := by decide +kernel
theorem dX7_daysTill_11 : decode cX7_daysTill 11 = .ok (.iload_n 1, 1) := by decide +kernel
theorem dX7_daysTill_12 : decode cX7_daysTill 12 = .ok (.iaload, 1) := by decide +kernel
theorem dX7_daysTill_13 : decode cX7_daysTill 13 = .ok (.ifCond .ne 7, 3) := by decide +kernel
theorem dX7_daysTill_16 : decode cX7_daysTill 16 = .ok (.iconst 0, 1) := by decide +kernel
theorem dX7_daysTill_17 : decode cX7_daysTill 17 = .ok (.goto 25, 3) := by decide +kernel
theorem dX7_daysTill_20 : decode cX7_daysTill 20 = .ok (.iload_n 3, 1) := by decide +kernel
theorem dX7_daysTill_21 : decode cX7_daysTill 21 = .ok (.ifCond .ne 9, 3) := by decide +kernel
theorem dX7_daysTill_24 : decode cX7_daysTill 24 = .ok (.sipush 1000, 3) := by decide +kernel
theorem dX7_daysTill_27 : decode cX7_daysTill 27 = .ok (.goto 15, 3) := by decide +kernel
theorem dX7_daysTill_30 : decode cX7_daysTill 30 = .ok (.aload_n 0, 1) := by decide +kernel
theorem dX7_daysTill_31 : decode cX7_daysTill 31 = .ok (.getfield 7, 3) := by decide +kernel
theorem dX7_daysTill_34 : decode cX7_daysTill 34 = .ok (.iload_n 1, 1) := by decide +kernel
theorem dX7_daysTill_35 : decode cX7_daysTill 35 = .ok (.iaload, 1) := by decide +kernel
theorem dX7_daysTill_36 : decode cX7_daysTill 36 = .ok (.iload_n 3, 1) := by decide +kernel
theorem dX7_daysTill_37 : decode cX7_daysTill 37 = .ok (.iadd, 1) := by decide +kernel
theorem dX7_daysTill_38 : decode cX7_daysTill 38 = .ok (.iconst 1, 1) := by decide +kernel
theorem dX7_daysTill_39 : decode cX7_daysTill 39 = .ok (.isub, 1) := by decide +kernel
theorem dX7_daysTill_40 : decode cX7_daysTill 40 = .ok (.iload_n 3, 1) := by decide +kernel
theorem dX7_daysTill_41 : decode cX7_daysTill 41 = .ok (.idiv, 1) := by decide +kernel
theorem dX7_daysTill_42 : decode cX7_daysTill 42 = .ok (.ireturn, 1) := by decide +kernel
theorem dX7_whenSoft_0 : decode cX7_whenSoft 0 = .ok (.iconst 0, 1) := by decide +kernel
theorem dX7_whenSoft_1 : decode cX7_whenSoft 1 = .ok (.istore_n 3, 1) := by decide +kernel
theorem dX7_whenSoft_2 : decode cX7_whenSoft 2 = .ok (.iload_n 3, 1) := by decide +kernel
theorem dX7_whenSoft_3 : decode cX7_whenSoft 3 = .ok (.sipush 999, 3) := by decide +kernel
theorem dX7_whenSoft_6 : decode cX7_whenSoft 6 = .ok (.if_icmp .gt 74, 3) := by decide +kernel
theorem dX7_whenSoft_9 : decode cX7_whenSoft 9 = .ok (.iconst 0, 1) := by decide +kernel
theorem dX7_whenSoft_10 : decode cX7_whenSoft 10 = .ok (.istore 4, 2) := by decide +kernel
theorem dX7_whenSoft_12 : decode cX7_whenSoft 12 = .ok (.iconst 0, 1) := by decide +kernel
theorem dX7_whenSoft_13 : decode cX7_whenSoft 13 = .ok (.istore 5, 2) := by decide +kernel
theorem dX7_whenSoft_15 : decode cX7_whenSoft 15 = .ok (.iload 5, 2) := by decide +kernel
theorem dX7_whenSoft_17 : decode cX7_whenSoft 17 = .ok (.aload_n 0, 1) := by decide +kernel
theorem dX7_whenSoft_18 : decode cX7_whenSoft 18 = .ok (.getfield 36, 3) := by decide +kernel
theorem dX7_whenSoft_21 : decode cX7_whenSoft 21 = .ok (.iconst 0, 1) := by decide +kernel
theorem dX7_whenSoft_22 : decode cX7_whenSoft 22 = .ok (.iaload, 1) := by decide +kernel
theorem dX7_whenSoft_23 : decode cX7_whenSoft 23 = .ok (.if_icmp .ge 43, 3) := by decide +kernel
theorem dX7_whenSoft_26 : decode cX7_whenSoft 26 = .ok (.iload 4, 2) := by decide +kernel
theorem dX7_whenSoft_28 : decode cX7_whenSoft 28 = .ok (.aload_n 0, 1) := by decide +kernel
theorem dX7_whenSoft_29 : decode cX7_whenSoft 29 = .ok (.iconst 0, 1) := by decide +kernel
theorem dX7_whenSoft_30 : decode cX7_whenSoft 30 = .ok (.iload 5, 2) := by decide +kernel
theorem dX7_whenSoft_32 : decode cX7_whenSoft 32 = .ok (.invokevirtual 187, 3) := by decide +kernel
theorem dX7_whenSoft_35 : decode cX7_whenSoft 35 = .ok (.ifCond .ge 18, 3) := by decide +kernel
theorem dX7_whenSoft_38 : decode cX7_whenSoft 38 = .ok (.aload_n 0, 1) := by decide +kernel
theorem dX7_whenSoft_39 : decode cX7_whenSoft 39 = .ok (.iload 5, 2) := by decide +kernel
theorem dX7_whenSoft_41 : decode cX7_whenSoft 41 = .ok (.iload_n 2, 1) := by decide +kernel
theorem dX7_whenSoft_42 : decode cX7_whenSoft 42 = .ok (.invokevirtual 271, 3) := by decide +kernel
theorem dX7_whenSoft_45 : decode cX7_whenSoft 45 = .ok (.iload_n 3, 1) := by decide +kernel
theorem dX7_whenSoft_46 : decode cX7_whenSoft 46 = .ok (.if_icmp .gt 7, 3) := by decide +kernel
theorem dX7_whenSoft_49 : decode cX7_whenSoft 49 = .ok (.iconst 1, 1) := by decide +kernel
theorem dX7_whenSoft_50 : decode cX7_whenSoft 50 = .ok (.goto 4, 3) := by decide +kernel
theorem dX7_whenSoft_53 : decode cX7_whenSoft 53 = .ok (.iconst 0, 1) := by decide +kernel
theorem dX7_whenSoft_54 : decode cX7_whenSoft 54 = .ok (.invokestatic 157, 3) := by decide +kernel
theorem dX7_whenSoft_57 : decode cX7_whenSoft 57 = .ok (.iadd, 1) := by decide +kernel
theorem dX7_whenSoft_58 : decode cX7_whenSoft 58 = .ok (.istore 4, 2) := by decide +kernel
theorem dX7_whenSoft_60 : decode cX7_whenSoft 60 = .ok (.iinc 5 1, 3) := by decide +kernel
theorem dX7_whenSoft_63 : decode cX7_whenSoft 63 = .ok (.goto (-48), 3) := by decide +kernel
theorem dX7_whenSoft_66 : decode cX7_whenSoft 66 = .ok (.iload 4, 2) := by decide +kernel
theorem dX7_whenSoft_68 : decode cX7_whenSoft 68 = .ok (.iload_n 1, 1) := by decide +kernel
theorem dX7_whenSoft_69 : decode cX7_whenSoft 69 = .ok (.if_icmp .lt 5, 3) := by decide +kernel
theorem dX7_whenSoft_72 : decode cX7_whenSoft 72 = .ok (.iload_n 3, 1) := by decide +kernel
theorem dX7_whenSoft_73 : decode cX7_whenSoft 73 = .ok (.ireturn, 1) := by decide +kernel
theorem dX7_whenSoft_74 : decode cX7_whenSoft 74 = .ok (.iinc 3 1, 3) := by decide +kernel
theorem dX7_whenSoft_77 : decode cX7_whenSoft 77 = .ok (.goto (-75), 3) := by decide +kernel
theorem dX7_whenSoft_80 : decode cX7_whenSoft 80 = .ok (.iconst (-1), 1) := by decide +kernel
theorem dX7_whenSoft_81 : decode cX7_whenSoft 81 = .ok (.ireturn, 1) := by decide +kernel
theorem dX7_when_0 : decode cX7_when 0 = .ok (.iload_n 1, 1) := by decide +kernel
theorem dX7_when_1 : decode cX7_when 1 = .ok (.i2l, 1) := by decide +kernel
theorem dX7_when_2 : decode cX7_when 2 = .ok (.lconst 1, 1) := by decide +kernel
theorem dX7_when_3 : decode cX7_when 3 = .ok (.ldc2_w 75, 3) := by decide +kernel
theorem dX7_when_6 : decode cX7_when 6 = .ok (.invokestatic 77, 3) := by decide +kernel
theorem dX7_when_9 : decode cX7_when 9 = .ok (.ifCond .eq 24, 3) := by decide +kernel
theorem dX7_when_12 : decode cX7_when 12 = .ok (.iload_n 2, 1) := by decide +kernel
theorem dX7_when_13 : decode cX7_when 13 = .ok (.i2l, 1) := by decide +kernel
theorem dX7_when_14 : decode cX7_when 14 = .ok (.lconst 1, 1) := by decide +kernel
theorem dX7_when_15 : decode cX7_when 15 = .ok (.ldc2_w 206, 3) := by decide +kernel
theorem dX7_when_18 : decode cX7_when 18 = .ok (.invokestatic 77, 3) := by decide +kernel
theorem dX7_when_21 : decode cX7_when 21 = .ok (.ifCond .eq 12, 3) := by decide +kernel
theorem dX7_when_24 : decode cX7_when 24 = .ok (.aload_n 0, 1) := by decide +kernel
theorem dX7_when_25 : decode cX7_when 25 = .ok (.iload_n 1, 1) := by decide +kernel
theorem dX7_when_26 : decode cX7_when 26 = .ok (.iload_n 2, 1) := by decide +kernel
theorem dX7_when_27 : decode cX7_when 27 = .ok (.invokevirtual 274, 3) := by decide +kernel
theorem dX7_when_30 : decode cX7_when 30 = .ok (.goto 5, 3) := by decide +kernel
theorem dX7_when_33 : decode cX7_when 33 = .ok (.ldc 81, 2) := by decide +kernel
theorem dX7_when_35 : decode cX7_when 35 = .ok (.ireturn, 1) := by decide +kernel
theorem dX7_span_0 : decode cX7_span 0 = .ok (.iload_n 1, 1) := by decide +kernel
theorem dX7_span_1 : decode cX7_span 1 = .ok (.i2l, 1) := by decide +kernel
theorem dX7_span_2 : decode cX7_span 2 = .ok (.lconst 1, 1) := by decide +kernel
theorem dX7_span_3 : decode cX7_span 3 = .ok (.ldc2_w 75, 3) := by decide +kernel
theorem dX7_span_6 : decode cX7_span 6 = .ok (.invokestatic 77, 3) := by decide +kernel
theorem dX7_span_9 : decode cX7_span 9 = .ok (.ifCond .eq 39, 3) := by decide +kernel
theorem dX7_span_12 : decode cX7_span 12 = .ok (.iload_n 2, 1) := by decide +kernel
theorem dX7_span_13 : decode cX7_span 13 = .ok (.i2l, 1) := by decide +kernel
theorem dX7_span_14 : decode cX7_span 14 = .ok (.lconst 1, 1) := by decide +kernel
theorem dX7_span_15 : decode cX7_span 15 = .ok (.ldc2_w 206, 3) := by decide +kernel
theorem dX7_span_18 : decode cX7_span 18 = .ok (.invokestatic 77, 3) := by decide +kernel
theorem dX7_span_21 : decode cX7_span 21 = .ok (.ifCond .eq 27, 3) := by decide +kernel
theorem dX7_span_24 : decode cX7_span 24 = .ok (.iload_n 3, 1) := by decide +kernel
theorem dX7_span_25 : decode cX7_span 25 = .ok (.i2l, 1) := by decide +kernel
theorem dX7_span_26 : decode cX7_span 26 = .ok (.iload_n 2, 1) := by decide +kernel
theorem dX7_span_27 : decode cX7_span 27 = .ok (.i2l, 1) := by decide +kernel
theorem dX7_span_28 : decode cX7_span 28 = .ok (.ldc2_w 206, 3) := by decide +kernel
theorem dX7_span_31 : decode cX7_span 31 = .ok (.invokestatic 77, 3) := by decide +kernel
theorem dX7_span_34 : decode cX7_span 34 = .ok (.ifCond .eq 14, 3) := by decide +kernel
theorem dX7_span_37 : decode cX7_span 37 = .ok (.iload 4, 2) := by decide +kernel
theorem dX7_span_39 : decode cX7_span 39 = .ok (.i2l, 1) := by decide +kernel
theorem dX7_span_40 : decode cX7_span 40 = .ok (.lconst 0, 1) := by decide +kernel
theorem dX7_span_41 : decode cX7_span 41 = .ok (.lconst 1, 1) := by decide +kernel
theorem dX7_span_42 : decode cX7_span 42 = .ok (.invokestatic 77, 3) := by decide +kernel
theorem dX7_span_45 : decode cX7_span 45 = .ok (.ifCond .ne 6, 3) := by decide +kernel
theorem dX7_span_48 : decode cX7_span 48 = .ok (.ldc 81, 2) := by decide +kernel
theorem dX7_span_50 : decode cX7_span 50 = .ok (.ireturn, 1) := by decide +kernel
theorem dX7_span_51 : decode cX7_span 51 = .ok (.aload_n 0, 1) := by decide +kernel
theorem dX7_span_52 : decode cX7_span 52 = .ok (.iload_n 1, 1) := by decide +kernel
theorem dX7_span_53 : decode cX7_span 53 = .ok (.iload 4, 2) := by decide +kernel
theorem dX7_span_55 : decode cX7_span 55 = .ok (.ifCond .ne 7, 3) := by decide +kernel
theorem dX7_span_58 : decode cX7_span 58 = .ok (.iload_n 3, 1) := by decide +kernel
theorem dX7_span_59 : decode cX7_span 59 = .ok (.goto 4, 3) := by decide +kernel
theorem dX7_span_62 : decode cX7_span 62 = .ok (.iload_n 2, 1) := by decide +kernel
theorem dX7_span_63 : decode cX7_span 63 = .ok (.invokevirtual 274, 3) := by decide +kernel
theorem dX7_span_66 : decode cX7_span 66 = .ok (.ireturn, 1) := by decide +kernel
theorem dX7_bribe_0 : decode cX7_bribe 0 = .ok (.aload_n 0, 1) := by decide +kernel
theorem dX7_bribe_1 : decode cX7_bribe 1 = .ok (.iload_n 1, 1) := by decide +kernel
theorem dX7_bribe_2 : decode cX7_bribe 2 = .ok (.invokevirtual 190, 3) := by decide +kernel
theorem dX7_bribe_5 : decode cX7_bribe 5 = .ok (.ifCond .ne 6, 3) := by decide +kernel
theorem dX7_bribe_8 : decode cX7_bribe 8 = .ok (.ldc 186, 2) := by decide +kernel
theorem dX7_bribe_10 : decode cX7_bribe 10 = .ok (.ireturn, 1) := by decide +kernel
theorem dX7_bribe_11 : decode cX7_bribe 11 = .ok (.iload_n 2, 1) := by decide +kernel
theorem dX7_bribe_12 : decode cX7_bribe 12 = .ok (.i2l, 1) := by decide +kernel
theorem dX7_bribe_13 : decode cX7_bribe 13 = .ok (.lconst 0, 1) := by decide +kernel
theorem dX7_bribe_14 : decode cX7_bribe 14 = .ok (.ldc2_w 277, 3) := by decide +kernel
theorem dX7_bribe_17 : decode cX7_bribe 17 = .ok (.invokestatic 77, 3) := by decide +kernel
theorem dX7_bribe_20 : decode cX7_bribe 20 = .ok (.ifCond .ne 6, 3) := by decide +kernel
theorem dX7_bribe_23 : decode cX7_bribe 23 = .ok (.ldc 81, 2) := by decide +kernel
theorem dX7_bribe_25 : decode cX7_bribe 25 = .ok (.ireturn, 1) := by decide +kernel
theorem dX7_bribe_26 : decode cX7_bribe 26 = .ok (.aload_n 0, 1) := by decide +kernel
theorem dX7_bribe_27 : decode cX7_bribe 27 = .ok (.iconst 0, 1) := by decide +kernel
theorem dX7_bribe_28 : decode cX7_bribe 28 = .ok (.iload_n 1, 1) := by decide +kernel
theorem dX7_bribe_29 : decode cX7_bribe 29 = .ok (.invokevirtual 154, 3) := by decide +kernel
theorem dX7_bribe_32 : decode cX7_bribe 32 = .ok (.ifCond .ne 6, 3) := by decide +kernel
theorem dX7_bribe_35 : decode cX7_bribe 35 = .ok (.ldc 200, 2) := by decide +kernel
theorem dX7_bribe_37 : decode cX7_bribe 37 = .ok (.ireturn, 1) := by decide +kernel
theorem dX7_bribe_38 : decode cX7_bribe 38 = .ok (.aload_n 0, 1) := by decide +kernel
theorem dX7_bribe_39 : decode cX7_bribe 39 = .ok (.iconst 0, 1) := by decide +kernel
theorem dX7_bribe_40 : decode cX7_bribe 40 = .ok (.bipush 100, 2) := by decide +kernel
theorem dX7_bribe_42 : decode cX7_bribe 42 = .ok (.invokevirtual 257, 3) := by decide +kernel
theorem dX7_bribe_45 : decode cX7_bribe 45 = .ok (.iconst 0, 1) := by decide +kernel
theorem dX7_bribe_46 : decode cX7_bribe 46 = .ok (.istore_n 3, 1) := by decide +kernel
theorem dX7_bribe_47 : decode cX7_bribe 47 = .ok (.iload_n 3, 1) := by decide +kernel
theorem dX7_bribe_48 : decode cX7_bribe 48 = .ok (.sipush 999, 3) := by decide +kernel
theorem dX7_bribe_51 : decode cX7_bribe 51 = .ok (.if_icmp .gt 65, 3) := by decide +kernel
theorem dX7_bribe_54 : decode cX7_bribe 54 = .ok (.aload_n 0, 1) := by decide +kernel
theorem dX7_bribe_55 : decode cX7_bribe 55 = .ok (.getfield 7, 3) := by decide +kernel
theorem dX7_bribe_58 : decode cX7_bribe 58 = .ok (.bipush 124, 2) := by decide +kernel
theorem dX7_bribe_60 : decode cX7_bribe 60 = .ok (.iload_n 1, 1) := by decide +kernel
theorem dX7_bribe_61 : decode cX7_bribe 61 = .ok (.iadd, 1) := by decide +kernel
theorem dX7_bribe_62 : decode cX7_bribe 62 = .ok (.aload_n 0, 1) := by decide +kernel
theorem dX7_bribe_63 : decode cX7_bribe 63 = .ok (.getfield 7, 3) := by decide +kernel
theorem dX7_bribe_66 : decode cX7_bribe 66 = .ok (.bipush 24, 2) := by decide +kernel
theorem dX7_bribe_68 : decode cX7_bribe 68 = .ok (.iload_n 1, 1) := by decide +kernel
theorem dX7_bribe_69 : decode cX7_bribe 69 = .ok (.iadd, 1) := by decide +kernel
theorem dX7_bribe_70 : decode cX7_bribe 70 = .ok (.iaload, 1) := by decide +kernel
theorem dX7_bribe_71 : decode cX7_bribe 71 = .ok (.iload_n 3, 1) := by decide +kernel
theorem dX7_bribe_72 : decode cX7_bribe 72 = .ok (.iadd, 1) := by decide +kernel
theorem dX7_bribe_73 : decode cX7_bribe 73 = .ok (.sipush 9999, 3) := by decide +kernel
theorem dX7_bribe_76 : decode cX7_bribe 76 = .ok (.if_icmp .le 9, 3) := by decide +kernel
theorem dX7_bribe_79 : decode cX7_bribe 79 = .ok (.sipush 9999, 3) := by decide +kernel
theorem dX7_bribe_82 : decode cX7_bribe 82 = .ok (.goto 14, 3) := by decide +kernel
theorem dX7_bribe_85 : decode cX7_bribe 85 = .ok (.aload_n 0, 1) := by decide +kernel
theorem dX7_bribe_86 : decode cX7_bribe 86 = .ok (.getfield 7, 3) := by decide +kernel
theorem dX7_bribe_89 : decode cX7_bribe 89 = .ok (.bipush 24, 2) := by decide +kernel
theorem dX7_bribe_91 : decode cX7_bribe 91 = .ok (.iload_n 1, 1) := by decide +kernel
theorem dX7_bribe_92 : decode cX7_bribe 92 = .ok (.iadd, 1) := by decide +kernel
theorem dX7_bribe_93 : decode cX7_bribe 93 = .ok (.iaload, 1) := by decide +kernel
theorem dX7_bribe_94 : decode cX7_bribe 94 = .ok (.iload_n 3, 1) := by decide +kernel
theorem dX7_bribe_95 : decode cX7_bribe 95 = .ok (.iadd, 1) := by decide +kernel
theorem dX7_bribe_96 : decode cX7_bribe 96 = .ok (.iastore, 1) := by decide +kernel
theorem dX7_bribe_97 : decode cX7_bribe 97 = .ok (.aload_n 0, 1) := by decide +kernel
theorem dX7_bribe_98 : decode cX7_bribe 98 = .ok (.bipush 100, 2) := by decide +kernel
theorem dX7_bribe_100 : decode cX7_bribe 100 = .ok (.iload_n 1, 1) := by decide +kernel
theorem dX7_bribe_101 : decode cX7_bribe 101 = .ok (.invokevirtual 172, 3) := by decide +kernel
theorem dX7_bribe_104 : decode cX7_bribe 104 = .ok (.iload_n 2, 1) := by decide +kernel
theorem dX7_bribe_105 : decode cX7_bribe 105 = .ok (.if_icmp .gt 5, 3) := by decide +kernel
theorem dX7_bribe_108 : decode cX7_bribe 108 = .ok (.iload_n 3, 1) := by decide +kernel
theorem dX7_bribe_109 : decode cX7_bribe 109 = .ok (.ireturn, 1) := by decide +kernel
theorem dX7_bribe_110 : decode cX7_bribe 110 = .ok (.iinc 3 1, 3) := by decide +kernel
theorem dX7_bribe_113 : decode cX7_bribe 113 = .ok (.goto (-66), 3) := by decide +kernel
theorem dX7_bribe_116 : decode cX7_bribe 116 = .ok (.iconst (-1), 1) := by decide +kernel
theorem dX7_bribe_117 : decode cX7_bribe 117 = .ok (.ireturn, 1) := by decide +kernel
theorem dX7_label_0 : decode cX7_label 0 = .ok (.aload_n 0, 1) := by decide +kernel
theorem dX7_label_1 : decode cX7_label 1 = .ok (.iload_n 1, 1) := by decide +kernel
theorem dX7_label_2 : decode cX7_label 2 = .ok (.invokevirtual 190, 3) := by decide +kernel
theorem dX7_label_5 : decode cX7_label 5 = .ok (.ifCond .eq 11, 3) := by decide +kernel
theorem dX7_label_8 : decode cX7_label 8 = .ok (.aload_n 0, 1) := by decide +kernel
theorem dX7_label_9 : decode cX7_label 9 = .ok (.iload_n 2, 1) := by decide +kernel
theorem dX7_label_10 : decode cX7_label 10 = .ok (.invokevirtual 190, 3) := by decide +kernel
theorem dX7_label_13 : decode cX7_label 13 = .ok (.ifCond .ne 6, 3) := by decide +kernel
theorem dX7_label_16 : decode cX7_label 16 = .ok (.ldc 186, 2) := by decide +kernel
theorem dX7_label_18 : decode cX7_label 18 = .ok (.ireturn, 1) := by decide +kernel
theorem dX7_label_19 : decode cX7_label 19 = .ok (.aload_n 0, 1) := by decide +kernel
theorem dX7_label_20 : decode cX7_label 20 = .ok (.getfield 7, 3) := by decide +kernel
theorem dX7_label_23 : decode cX7_label 23 = .ok (.bipush 56, 2) := by decide +kernel
theorem dX7_label_25 : decode cX7_label 25 = .ok (.iload_n 1, 1) := by decide +kernel
theorem dX7_label_26 : decode cX7_label 26 = .ok (.iadd, 1) := by decide +kernel
theorem dX7_label_27 : decode cX7_label 27 = .ok (.iaload, 1) := by decide +kernel
theorem dX7_label_28 : decode cX7_label 28 = .ok (.istore_n 3, 1) := by decide +kernel
theorem dX7_label_29 : decode cX7_label 29 = .ok (.aload_n 0, 1) := by decide +kernel
theorem dX7_label_30 : decode cX7_label 30 = .ok (.getfield 7, 3) := by decide +kernel
theorem dX7_label_33 : decode cX7_label 33 = .ok (.bipush 56, 2) := by decide +kernel
theorem dX7_label_35 : decode cX7_label 35 = .ok (.iload_n 1, 1) := by decide +kernel
theorem dX7_label_36 : decode cX7_label 36 = .ok (.iadd, 1) := by decide +kernel
theorem dX7_label_37 : decode cX7_label 37 = .ok (.iload_n 2, 1) := by decide +kernel
theorem dX7_label_38 : decode cX7_label 38 = .ok (.iastore, 1) := by decide +kernel
theorem dX7_label_39 : decode cX7_label 39 = .ok (.iload_n 3, 1) := by decide +kernel
theorem dX7_label_40 : decode cX7_label 40 = .ok (.ireturn, 1) := by decide +kernel
theorem dX7_mark_0 : decode cX7_mark 0 = .ok (.aload_n 0, 1) := by decide +kernel
theorem dX7_mark_1 : decode cX7_mark 1 = .ok (.iload_n 1, 1) := by decide +kernel
theorem dX7_mark_2 : decode cX7_mark 2 = .ok (.invokevirtual 190, 3) := by decide +kernel
theorem dX7_mark_5 : decode cX7_mark 5 = .ok (.ifCond .eq 23, 3) := by decide +kernel
theorem dX7_mark_8 : decode cX7_mark 8 = .ok (.iload_n 2, 1) := by decide +kernel
theorem dX7_mark_9 : decode cX7_mark 9 = .ok (.i2l, 1) := by decide +kernel
theorem dX7_mark_10 : decode cX7_mark 10 = .ok (.lconst 0, 1) := by decide +kernel
theorem dX7_mark_11 : decode cX7_mark 11 = .ok (.iconst 1, 1) := by decide +kernel
theorem dX7_mark_12 : decode cX7_mark 12 = .ok (.aload_n 0, 1) := by decide +kernel
theorem dX7_mark_13 : decode cX7_mark 13 = .ok (.getfield 36, 3) := by decide +kernel
theorem dX7_mark_16 : decode cX7_mark 16 = .ok (.iconst 1, 1) := by decide +kernel
theorem dX7_mark_17 : decode cX7_mark 17 = .ok (.iaload, 1) := by decide +kernel
theorem dX7_mark_18 : decode cX7_mark 18 = .ok (.ishl, 1) := by decide +kernel
theorem dX7_mark_19 : decode cX7_mark 19 = .ok (.iconst 1, 1) := by decide +kernel
theorem dX7_mark_20 : decode cX7_mark 20 = .ok (.isub, 1) := by decide +kernel
theorem dX7_mark_21 : decode cX7_mark 21 = .ok (.i2l, 1) := by decide +kernel
theorem dX7_mark_22 : decode cX7_mark 22 = .ok (.invokestatic 77, 3) := by decide +kernel
theorem dX7_mark_25 : decode cX7_mark 25 = .ok (.ifCond .ne 6, 3) := by decide +kernel
theorem dX7_mark_28 : decode cX7_mark 28 = .ok (.ldc 186, 2) := by decide +kernel
theorem dX7_mark_30 : decode cX7_mark 30 = .ok (.ireturn, 1) := by decide +kernel
theorem dX7_mark_31 : decode cX7_mark 31 = .ok (.aload_n 0, 1) := by decide +kernel
theorem dX7_mark_32 : decode cX7_mark 32 = .ok (.getfield 7, 3) := by decide +kernel
theorem dX7_mark_35 : decode cX7_mark 35 = .ok (.bipush 64, 2) := by decide +kernel
theorem dX7_mark_37 : decode cX7_mark 37 = .ok (.iload_n 1, 1) := by decide +kernel
theorem dX7_mark_38 : decode cX7_mark 38 = .ok (.iadd, 1) := by decide +kernel
theorem dX7_mark_39 : decode cX7_mark 39 = .ok (.iaload, 1) := by decide +kernel
theorem dX7_mark_40 : decode cX7_mark 40 = .ok (.istore_n 3, 1) := by decide +kernel
theorem dX7_mark_41 : decode cX7_mark 41 = .ok (.aload_n 0, 1) := by decide +kernel
theorem dX7_mark_42 : decode cX7_mark 42 = .ok (.getfield 7, 3) := by decide +kernel
theorem dX7_mark_45 : decode cX7_mark 45 = .ok (.bipush 64, 2) := by decide +kernel
theorem dX7_mark_47 : decode cX7_mark 47 = .ok (.iload_n 1, 1) := by decide +kernel
theorem dX7_mark_48 : decode cX7_mark 48 = .ok (.iadd, 1) := by decide +kernel
theorem dX7_mark_49 : decode cX7_mark 49 = .ok (.iload_n 2, 1) := by decide +kernel
theorem dX7_mark_50 : decode cX7_mark 50 = .ok (.iastore, 1) := by decide +kernel
theorem dX7_mark_51 : decode cX7_mark 51 = .ok (.iload_n 3, 1) := by decide +kernel
theorem dX7_mark_52 : decode cX7_mark 52 = .ok (.ireturn, 1) := by decide +kernel
theorem dX7_ahead_0 : decode cX7_ahead 0 = .ok (.aload_n 0, 1) := by decide +kernel
theorem dX7_ahead_1 : decode cX7_ahead 1 = .ok (.getfield 36, 3) := by decide +kernel
theorem dX7_ahead_4 : decode cX7_ahead 4 = .ok (.iconst 1, 1) := by decide +kernel
theorem dX7_ahead_5 : decode cX7_ahead 5 = .ok (.iaload, 1) := by decide +kernel
theorem dX7_ahead_6 : decode cX7_ahead 6 = .ok (.iload_n 1, 1) := by decide +kernel
theorem dX7_ahead_7 : decode cX7_ahead 7 = .ok (.invokestatic 236, 3) := by decide +kernel
theorem dX7_ahead_10 : decode cX7_ahead 10 = .ok (.isub, 1) := by decide +kernel
theorem dX7_ahead_11 : decode cX7_ahead 11 = .ok (.ireturn, 1) := by decide +kernel
theorem dX7_findNames_0 : decode cX7_findNames 0 = .ok (.iconst 0, 1) := by decide +kernel
theorem dX7_findNames_1 : decode cX7_findNames 1 = .ok (.istore_n 1, 1) := by decide +kernel
theorem dX7_findNames_2 : decode cX7_findNames 2 = .ok (.iload_n 1, 1) := by decide +kernel
theorem dX7_findNames_3 : decode cX7_findNames 3 = .ok (.iconst 1, 1) := by decide +kernel
theorem dX7_findNames_4 : decode cX7_findNames 4 = .ok (.aload_n 0, 1) := by decide +kernel
theorem dX7_findNames_5 : decode cX7_findNames 5 = .ok (.getfield 36, 3) := by decide +kernel
theorem dX7_findNames_8 : decode cX7_findNames 8 = .ok (.iconst 1, 1) := by decide +kernel
theorem dX7_findNames_9 : decode cX7_findNames 9 = .ok (.iaload, 1) := by decide +kernel
theorem dX7_findNames_10 : decode cX7_findNames 10 = .ok (.ishl, 1) := by decide +kernel
theorem dX7_findNames_11 : decode cX7_findNames 11 = .ok (.if_icmp .ge 180, 3) := by decide +kernel
theorem dX7_findNames_14 : decode cX7_findNames 14 = .ok (.aload_n 0, 1) := by decide +kernel
theorem dX7_findNames_15 : decode cX7_findNames 15 = .ok (.iload_n 1, 1) := by decide +kernel
theorem dX7_findNames_16 : decode cX7_findNames 16 = .ok (.invokevirtual 279, 3) := by decide +kernel
theorem dX7_findNames_19 : decode cX7_findNames 19 = .ok (.istore_n 2, 1) := by decide +kernel
theorem dX7_findNames_20 : decode cX7_findNames 20 = .ok (.aload_n 0, 1) := by decide +kernel
theorem dX7_findNames_21 : decode cX7_findNames 21 = .ok (.getfield 60, 3) := by decide +kernel
theorem dX7_findNames_24 : decode cX7_findNames 24 = .ok (.iload_n 1, 1) := by decide +kernel
theorem dX7_findNames_25 : decode cX7_findNames 25 = .ok (.iload_n 1, 1) := by decide +kernel
theorem dX7_findNames_26 : decode cX7_findNames 26 = .ok (.ifCond .ne 7, 3) := by decide +kernel
theorem dX7_findNames_29 : decode cX7_findNames 29 = .ok (.iconst 1, 1) := by decide +kernel
theorem dX7_findNames_30 : decode cX7_findNames 30 = .ok (.goto 4, 3) := by decide +kernel
theorem dX7_findNames_33 : decode cX7_findNames 33 = .ok (.iconst 0, 1) := by decide +kernel
theorem dX7_findNames_34 : decode cX7_findNames 34 = .ok (.invokestatic 157, 3) := by decide +kernel
theorem dX7_findNames_37 : decode cX7_findNames 37 = .ok (.iastore, 1) := by decide +kernel
theorem dX7_findNames_38 : decode cX7_findNames 38 = .ok (.aload_n 0, 1) := by decide +kernel
theorem dX7_findNames_39 : decode cX7_findNames 39 = .ok (.getfield 63, 3) := by decide +kernel
theorem dX7_findNames_42 : decode cX7_findNames 42 = .ok (.iload_n 1, 1) := by decide +kernel
theorem dX7_findNames_43 : decode cX7_findNames 43 = .ok (.iload_n 1, 1) := by decide +kernel
theorem dX7_findNames_44 : decode cX7_findNames 44 = .ok (.ifCond .ne 7, 3) := by decide +kernel
theorem dX7_findNames_47 : decode cX7_findNames 47 = .ok (.iconst 0, 1) := by decide +kernel
theorem dX7_findNames_48 : decode cX7_findNames 48 = .ok (.goto 6, 3) := by decide +kernel
theorem dX7_findNames_51 : decode cX7_findNames 51 = .ok (.sipush 999, 3) := by decide +kernel
theorem dX7_findNames_54 : decode cX7_findNames 54 = .ok (.iastore, 1) := by decide +kernel
theorem dX7_findNames_55 : decode cX7_findNames 55 = .ok (.iconst 0, 1) := by decide +kernel
theorem dX7_findNames_56 : decode cX7_findNames 56 = .ok (.istore_n 3, 1) := by decide +kernel
theorem dX7_findNames_57 : decode cX7_findNames 57 = .ok (.iload_n 3, 1) := by decide +kernel
theorem dX7_findNames_58 : decode cX7_findNames 58 = .ok (.aload_n 0, 1) := by decide +kernel
theorem dX7_findNames_59 : decode cX7_findNames 59 = .ok (.getfield 36, 3) := by decide +kernel
theorem dX7_findNames_62 : decode cX7_findNames 62 = .ok (.iconst 1, 1) := by decide +kernel
theorem dX7_findNames_63 : decode cX7_findNames 63 = .ok (.iaload, 1) := by decide +kernel
theorem dX7_findNames_64 : decode cX7_findNames 64 = .ok (.if_icmp .ge 121, 3) := by decide +kernel
theorem dX7_findNames_67 : decode cX7_findNames 67 = .ok (.iload_n 1, 1) := by decide +kernel
theorem dX7_findNames_68 : decode cX7_findNames 68 = .ok (.ifCond .le 117, 3) := by decide +kernel
theorem dX7_findNames_71 : decode cX7_findNames 71 = .ok (.iload_n 1, 1) := by decide +kernel
theorem dX7_findNames_72 : decode cX7_findNames 72 = .ok (.iload_n 3, 1) := by decide +kernel
theorem dX7_findNames_73 : decode cX7_findNames 73 = .ok (.invokestatic 150, 3) := by decide +kernel
theorem dX7_findNames_76 : decode cX7_findNames 76 = .ok (.ifCond .eq 103, 3) := by decide +kernel
theorem dX7_findNames_79 : decode cX7_findNames 79 = .ok (.aload_n 0, 1) := by decide +kernel
theorem dX7_findNames_80 : decode cX7_findNames 80 = .ok (.getfield 7, 3) := by decide +kernel
theorem dX7_findNames_83 : decode cX7_findNames 83 = .ok (.bipush 64, 2) := by decide +kernel
theorem dX7_findNames_85 : decode cX7_findNames 85 = .ok (.iload_n 2, 1) := by decide +kernel
theorem dX7_findNames_86 : decode cX7_findNames 86 = .ok (.iadd, 1) := by decide +kernel
theorem dX7_findNames_87 : decode cX7_findNames 87 = .ok (.iaload, 1) := by decide +kernel
theorem dX7_findNames_88 : decode cX7_findNames 88 = .ok (.iload_n 3, 1) := by decide +kernel
theorem dX7_findNames_89 : decode cX7_findNames 89 = .ok (.invokestatic 150, 3) := by decide +kernel
theorem dX7_findNames_92 : decode cX7_findNames 92 = .ok (.ifCond .eq 87, 3) := by decide +kernel
theorem dX7_findNames_95 : decode cX7_findNames 95 = .ok (.iload_n 1, 1) := by decide +kernel
theorem dX7_findNames_96 : decode cX7_findNames 96 = .ok (.iconst 1, 1) := by decide +kernel
theorem dX7_findNames_97 : decode cX7_findNames 97 = .ok (.iload_n 3, 1) := by decide +kernel
theorem dX7_findNames_98 : decode cX7_findNames 98 = .ok (.ishl, 1) := by decide +kernel
theorem dX7_findNames_99 : decode cX7_findNames 99 = .ok (.iconst (-1), 1) := by decide +kernel
theorem dX7_findNames_100 : decode cX7_findNames 100 = .ok (.ixor, 1) := by decide +kernel
theorem dX7_findNames_101 : decode cX7_findNames 101 = .ok (.iand, 1) := by decide +kernel
theorem dX7_findNames_102 : decode cX7_findNames 102 = .ok (.istore 4, 2) := by decide +kernel
theorem dX7_findNames_104 : decode cX7_findNames 104 = .ok (.aload_n 0, 1) := by decide +kernel
theorem dX7_findNames_105 : decode cX7_findNames 105 = .ok (.getfield 63, 3) := by decide +kernel
theorem dX7_findNames_108 : decode cX7_findNames 108 = .ok (.iload 4, 2) := by decide +kernel
theorem dX7_findNames_110 : decode cX7_findNames 110 = .ok (.iaload, 1) := by decide +kernel
theorem dX7_findNames_111 : decode cX7_findNames 111 = .ok (.aload_n 0, 1) := by decide +kernel
theorem dX7_findNames_112 : decode cX7_findNames 112 = .ok (.getfield 7, 3) := by decide +kernel
theorem dX7_findNames_115 : decode cX7_findNames 115 = .ok (.bipush 56, 2) := by decide +kernel
theorem dX7_findNames_117 : decode cX7_findNames 117 = .ok (.iload_n 2, 1) := by decide +kernel
theorem dX7_findNames_118 : decode cX7_findNames 118 = .ok (.iadd, 1) := by decide +kernel
theorem dX7_findNames_119 : decode cX7_findNames 119 = .ok (.iaload, 1) := by decide +kernel
theorem dX7_findNames_120 : decode cX7_findNames 120 = .ok (.iload_n 3, 1) := by decide +kernel
theorem dX7_findNames_121 : decode cX7_findNames 121 = .ok (.if_icmp .eq 7, 3) := by decide +kernel
theorem dX7_findNames_124 : decode cX7_findNames 124 = .ok (.iconst 1, 1) := by decide +kernel
theorem dX7_findNames_125 : decode cX7_findNames 125 = .ok (.goto 4, 3) := by decide +kernel
theorem dX7_findNames_128 : decode cX7_findNames 128 = .ok (.iconst 0, 1) := by decide +kernel
theorem dX7_findNames_129 : decode cX7_findNames 129 = .ok (.invokestatic 157, 3) := by decide +kernel
theorem dX7_findNames_132 : decode cX7_findNames 132 = .ok (.iadd, 1) := by decide +kernel
theorem dX7_findNames_133 : decode cX7_findNames 133 = .ok (.istore 5, 2) := by decide +kernel
theorem dX7_findNames_135 : decode cX7_findNames 135 = .ok (.aload_n 0, 1) := by decide +kernel
theorem dX7_findNames_136 : decode cX7_findNames 136 = .ok (.getfield 60, 3) := by decide +kernel
theorem dX7_findNames_139 : decode cX7_findNames 139 = .ok (.iload_n 1, 1) := by decide +kernel
theorem dX7_findNames_140 : decode cX7_findNames 140 = .ok (.dup2, 1) := by decide +kernel
theorem dX7_findNames_141 : decode cX7_findNames 141 = .ok (.iaload, 1) := by decide +kernel
theorem dX7_findNames_142 : decode cX7_findNames 142 = .ok (.aload_n 0, 1) := by decide +kernel
theorem dX7_findNames_143 : decode cX7_findNames 143 = .ok (.getfield 60, 3) := by decide +kernel
theorem dX7_findNames_146 : decode cX7_findNames 146 = .ok (.iload 4, 2) := by decide +kernel
theorem dX7_findNames_148 : decode cX7_findNames 148 = .ok (.iaload, 1) := by decide +kernel
theorem dX7_findNames_149 : decode cX7_findNames 149 = .ok (.iadd, 1) := by decide +kernel
theorem dX7_findNames_150 : decode cX7_findNames 150 = .ok (.iastore, 1) := by decide +kernel
theorem dX7_findNames_151 : decode cX7_findNames 151 = .ok (.aload_n 0, 1) := by decide +kernel
theorem dX7_findNames_152 : decode cX7_findNames 152 = .ok (.getfield 63, 3) := by decide +kernel
theorem dX7_findNames_155 : decode cX7_findNames 155 = .ok (.iload_n 1, 1) := by decide +kernel
theorem dX7_findNames_156 : decode cX7_findNames 156 = .ok (.iload 5, 2) := by decide +kernel
theorem dX7_findNames_158 : decode cX7_findNames 158 = .ok (.aload_n 0, 1) := by decide +kernel
theorem dX7_findNames_159 : decode cX7_findNames 159 = .ok (.getfield 63, 3) := by decide +kernel
theorem dX7_findNames_162 : decode cX7_findNames 162 = .ok (.iload_n 1, 1) := by decide +kernel
theorem dX7_findNames_163 : decode cX7_findNames 163 = .ok (.iaload, 1) := by decide +kernel
theorem dX7_findNames_164 : decode cX7_findNames 164 = .ok (.if_icmp .ge 8, 3) := by decide +kernel
theorem dX7_findNames_167 : decode cX7_findNames 167 = .ok (.iload 5, 2) := by decide +kernel
theorem dX7_findNames_169 : decode cX7_findNames 169 = .ok (.goto 9, 3) := by decide +kernel
theorem dX7_findNames_172 : decode cX7_findNames 172 = .ok (.aload_n 0, 1) := by decide +kernel
theorem dX7_findNames_173 : decode cX7_findNames 173 = .ok (.getfield 63, 3) := by decide +kernel
theorem dX7_findNames_176 : decode cX7_findNames 176 = .ok (.iload_n 1, 1) := by decide +kernel
theorem dX7_findNames_177 : decode cX7_findNames 177 = .ok (.iaload, 1) := by decide +kernel
theorem dX7_findNames_178 : decode cX7_findNames 178 = .ok (.iastore, 1) := by decide +kernel
theorem dX7_findNames_179 : decode cX7_findNames 179 = .ok (.iinc 3 1, 3) := by decide +kernel
theorem dX7_findNames_182 : decode cX7_findNames 182 = .ok (.goto (-125), 3) := by decide +kernel
theorem dX7_findNames_185 : decode cX7_findNames 185 = .ok (.iinc 1 1, 3) := by decide +kernel
theorem dX7_findNames_188 : decode cX7_findNames 188 = .ok (.goto (-186), 3) := by decide +kernel
theorem dX7_findNames_191 : decode cX7_findNames 191 = .ok (.return_, 1) := by decide +kernel
theorem dX7_fits_0 : decode cX7_fits 0 = .ok (.aload_n 0, 1) := by decide +kernel
theorem dX7_fits_1 : decode cX7_fits 1 = .ok (.invokevirtual 282, 3) := by decide +kernel
theorem dX7_fits_4 : decode cX7_fits 4 = .ok (.aload_n 0, 1) := by decide +kernel
theorem dX7_fits_5 : decode cX7_fits 5 = .ok (.getfield 60, 3) := by decide +kernel
theorem dX7_fits_8 : decode cX7_fits 8 = .ok (.iconst 1, 1) := by decide +kernel
theorem dX7_fits_9 : decode cX7_fits 9 = .ok (.aload_n 0, 1) := by decide +kernel
theorem dX7_fits_10 : decode cX7_fits 10 = .ok (.getfield 36, 3) := by decide +kernel
theorem dX7_fits_13 : decode cX7_fits 13 = .ok (.iconst 1, 1) := by decide +kernel
theorem dX7_fits_14 : decode cX7_fits 14 = .ok (.iaload, 1) := by decide +kernel
theorem dX7_fits_15 : decode cX7_fits 15 = .ok (.ishl, 1) := by decide +kernel
theorem dX7_fits_16 : decode cX7_fits 16 = .ok (.iconst 1, 1) := by decide +kernel
theorem dX7_fits_17 : decode cX7_fits 17 = .ok (.isub, 1) := by decide +kernel
theorem dX7_fits_18 : decode cX7_fits 18 = .ok (.iaload, 1) := by decide +kernel
theorem dX7_fits_19 : decode cX7_fits 19 = .ok (.ireturn, 1) := by decide +kernel
theorem dX7_mixed_0 : decode cX7_mixed 0 = .ok (.iload_n 1, 1) := by decide +kernel
theorem dX7_mixed_1 : decode cX7_mixed 1 = .ok (.iconst (-1), 1) := by decide +kernel
theorem dX7_mixed_2 : decode cX7_mixed 2 = .ok (.if_icmp .eq 14, 3) := by decide +kernel
theorem dX7_mixed_5 : decode cX7_mixed 5 = .ok (.aload_n 0, 1) := by decide +kernel
theorem dX7_mixed_6 : decode cX7_mixed 6 = .ok (.iload_n 1, 1) := by decide +kernel
theorem dX7_mixed_7 : decode cX7_mixed 7 = .ok (.invokevirtual 190, 3) := by decide +kernel
theorem dX7_mixed_10 : decode cX7_mixed 10 = .ok (.ifCond .ne 6, 3) := by decide +kernel
theorem dX7_mixed_13 : decode cX7_mixed 13 = .ok (.ldc 186, 2) := by decide +kernel
theorem dX7_mixed_15 : decode cX7_mixed 15 = .ok (.ireturn, 1) := by decide +kernel
theorem dX7_mixed_16 : decode cX7_mixed 16 = .ok (.aload_n 0, 1) := by decide +kernel
theorem dX7_mixed_17 : decode cX7_mixed 17 = .ok (.invokevirtual 282, 3) := by decide +kernel
theorem dX7_mixed_20 : decode cX7_mixed 20 = .ok (.iconst 1, 1) := by decide +kernel
theorem dX7_mixed_21 : decode cX7_mixed 21 = .ok (.aload_n 0, 1) := by decide +kernel
theorem dX7_mixed_22 : decode cX7_mixed 22 = .ok (.getfield 36, 3) := by decide +kernel
theorem dX7_mixed_25 : decode cX7_mixed 25 = .ok (.iconst 1, 1) := by decide +kernel
theorem dX7_mixed_26 : decode cX7_mixed 26 = .ok (.iaload, 1) := by decide +kernel
theorem dX7_mixed_27 : decode cX7_mixed 27 = .ok (.ishl, 1) := by decide +kernel
theorem dX7_mixed_28 : decode cX7_mixed 28 = .ok (.iconst 1, 1) := by decide +kernel
theorem dX7_mixed_29 : decode cX7_mixed 29 = .ok (.isub, 1) := by decide +kernel
theorem dX7_mixed_30 : decode cX7_mixed 30 = .ok (.istore_n 2, 1) := by decide +kernel
theorem dX7_mixed_31 : decode cX7_mixed 31 = .ok (.aload_n 0, 1) := by decide +kernel
theorem dX7_mixed_32 : decode cX7_mixed 32 = .ok (.getfield 60, 3) := by decide +kernel
theorem dX7_mixed_35 : decode cX7_mixed 35 = .ok (.iload_n 2, 1) := by decide +kernel
theorem dX7_mixed_36 : decode cX7_mixed 36 = .ok (.iaload, 1) := by decide +kernel
theorem dX7_mixed_37 : decode cX7_mixed 37 = .ok (.ifCond .ne 5, 3) := by decide +kernel
theorem dX7_mixed_40 : decode cX7_mixed 40 = .ok (.iconst (-1), 1) := by decide +kernel
theorem dX7_mixed_41 : decode cX7_mixed 41 = .ok (.ireturn, 1) := by decide +kernel
theorem dX7_mixed_42 : decode cX7_mixed 42 = .ok (.iload_n 1, 1) := by decide +kernel
theorem dX7_mixed_43 : decode cX7_mixed 43 = .ok (.ifCond .ge 10, 3) := by decide +kernel
theorem dX7_mixed_46 : decode cX7_mixed 46 = .ok (.aload_n 0, 1) := by decide +kernel
theorem dX7_mixed_47 : decode cX7_mixed 47 = .ok (.getfield 63, 3) := by decide +kernel
theorem dX7_mixed_50 : decode cX7_mixed 50 = .ok (.iload_n 2, 1) := by decide +kernel
theorem dX7_mixed_51 : decode cX7_mixed 51 = .ok (.iaload, 1) := by decide +kernel
theorem dX7_mixed_52 : decode cX7_mixed 52 = .ok (.ireturn, 1) := by decide +kernel
theorem dX7_mixed_53 : decode cX7_mixed 53 = .ok (.iconst 0, 1) := by decide +kernel
theorem dX7_mixed_54 : decode cX7_mixed 54 = .ok (.istore_n 3, 1) := by decide +kernel
theorem dX7_mixed_55 : decode cX7_mixed 55 = .ok (.iconst 0, 1) := by decide +kernel
theorem dX7_mixed_56 : decode cX7_mixed 56 = .ok (.istore 4, 2) := by decide +kernel
theorem dX7_mixed_58 : decode cX7_mixed 58 = .ok (.iload 4, 2) := by decide +kernel
theorem dX7_mixed_60 : decode cX7_mixed 60 = .ok (.iload_n 1, 1) := by decide +kernel
theorem dX7_mixed_61 : decode cX7_mixed 61 = .ok (.if_icmp .gt 109, 3) := by decide +kernel
theorem dX7_mixed_64 : decode cX7_mixed 64 = .ok (.iconst 0, 1) := by decide +kernel
theorem dX7_mixed_65 : decode cX7_mixed 65 = .ok (.istore_n 3, 1) := by decide +kernel
theorem dX7_mixed_66 : decode cX7_mixed 66 = .ok (.iload_n 2, 1) := by decide +kernel
theorem dX7_mixed_67 : decode cX7_mixed 67 = .ok (.iload_n 3, 1) := by decide +kernel
theorem dX7_mixed_68 : decode cX7_mixed 68 = .ok (.invokestatic 150, 3) := by decide +kernel
theorem dX7_mixed_71 : decode cX7_mixed 71 = .ok (.ifCond .eq 79, 3) := by decide +kernel
theorem dX7_mixed_74 : decode cX7_mixed 74 = .ok (.aload_n 0, 1) := by decide +kernel
theorem dX7_mixed_75 : decode cX7_mixed 75 = .ok (.getfield 7, 3) := by decide +kernel
theorem dX7_mixed_78 : decode cX7_mixed 78 = .ok (.bipush 64, 2) := by decide +kernel
theorem dX7_mixed_80 : decode cX7_mixed 80 = .ok (.iload 4, 2) := by decide +kernel
theorem dX7_mixed_82 : decode cX7_mixed 82 = .ok (.iadd, 1) := by decide +kernel
theorem dX7_mixed_83 : decode cX7_mixed 83 = .ok (.iaload, 1) := by decide +kernel
theorem dX7_mixed_84 : decode cX7_mixed 84 = .ok (.iload_n 3, 1) := by decide +kernel
theorem dX7_mixed_85 : decode cX7_mixed 85 = .ok (.invokestatic 150, 3) := by decide +kernel
theorem dX7_mixed_88 : decode cX7_mixed 88 = .ok (.ifCond .eq 62, 3) := by decide +kernel
theorem dX7_mixed_91 : decode cX7_mixed 91 = .ok (.aload_n 0, 1) := by decide +kernel
theorem dX7_mixed_92 : decode cX7_mixed 92 = .ok (.getfield 60, 3) := by decide +kernel
theorem dX7_mixed_95 : decode cX7_mixed 95 = .ok (.iload_n 2, 1) := by decide +kernel
theorem dX7_mixed_96 : decode cX7_mixed 96 = .ok (.iconst 1, 1) := by decide +kernel
theorem dX7_mixed_97 : decode cX7_mixed 97 = .ok (.iload_n 3, 1) := by decide +kernel
theorem dX7_mixed_98 : decode cX7_mixed 98 = .ok (.ishl, 1) := by decide +kernel
theorem dX7_mixed_99 : decode cX7_mixed 99 = .ok (.iconst (-1), 1) := by decide +kernel
theorem dX7_mixed_100 : decode cX7_mixed 100 = .ok (.ixor, 1) := by decide +kernel
theorem dX7_mixed_101 : decode cX7_mixed 101 = .ok (.iand, 1) := by decide +kernel
theorem dX7_mixed_102 : decode cX7_mixed 102 = .ok (.iaload, 1) := by decide +kernel
theorem dX7_mixed_103 : decode cX7_mixed 103 = .ok (.ifCond .eq 47, 3) := by decide +kernel
theorem dX7_mixed_106 : decode cX7_mixed 106 = .ok (.aload_n 0, 1) := by decide +kernel
theorem dX7_mixed_107 : decode cX7_mixed 107 = .ok (.getfield 63, 3) := by decide +kernel
theorem dX7_mixed_110 : decode cX7_mixed 110 = .ok (.iload_n 2, 1) := by decide +kernel
theorem dX7_mixed_111 : decode cX7_mixed 111 = .ok (.iconst 1, 1) := by decide +kernel
theorem dX7_mixed_112 : decode cX7_mixed 112 = .ok (.iload_n 3, 1) := by decide +kernel
theorem dX7_mixed_113 : decode cX7_mixed 113 = .ok (.ishl, 1) := by decide +kernel
theorem dX7_mixed_114 : decode cX7_mixed 114 = .ok (.iconst (-1), 1) := by decide +kernel
theorem dX7_mixed_115 : decode cX7_mixed 115 = .ok (.ixor, 1) := by decide +kernel
theorem dX7_mixed_116 : decode cX7_mixed 116 = .ok (.iand, 1) := by decide +kernel
theorem dX7_mixed_117 : decode cX7_mixed 117 = .ok (.iaload, 1) := by decide +kernel
theorem dX7_mixed_118 : decode cX7_mixed 118 = .ok (.aload_n 0, 1) := by decide +kernel
theorem dX7_mixed_119 : decode cX7_mixed 119 = .ok (.getfield 7, 3) := by decide +kernel
theorem dX7_mixed_122 : decode cX7_mixed 122 = .ok (.bipush 56, 2) := by decide +kernel
theorem dX7_mixed_124 : decode cX7_mixed 124 = .ok (.iload 4, 2) := by decide +kernel
theorem dX7_mixed_126 : decode cX7_mixed 126 = .ok (.iadd, 1) := by decide +kernel
theorem dX7_mixed_127 : decode cX7_mixed 127 = .ok (.iaload, 1) := by decide +kernel
theorem dX7_mixed_128 : decode cX7_mixed 128 = .ok (.iload_n 3, 1) := by decide +kernel
theorem dX7_mixed_129 : decode cX7_mixed 129 = .ok (.if_icmp .eq 7, 3) := by decide +kernel
theorem dX7_mixed_132 : decode cX7_mixed 132 = .ok (.iconst 1, 1) := by decide +kernel
theorem dX7_mixed_133 : decode cX7_mixed 133 = .ok (.goto 4, 3) := by decide +kernel
theorem dX7_mixed_136 : decode cX7_mixed 136 = .ok (.iconst 0, 1) := by decide +kernel
theorem dX7_mixed_137 : decode cX7_mixed 137 = .ok (.invokestatic 157, 3) := by decide +kernel
theorem dX7_mixed_140 : decode cX7_mixed 140 = .ok (.iadd, 1) := by decide +kernel
theorem dX7_mixed_141 : decode cX7_mixed 141 = .ok (.aload_n 0, 1) := by decide +kernel
theorem dX7_mixed_142 : decode cX7_mixed 142 = .ok (.getfield 63, 3) := by decide +kernel
theorem dX7_mixed_145 : decode cX7_mixed 145 = .ok (.iload_n 2, 1) := by decide +kernel
theorem dX7_mixed_146 : decode cX7_mixed 146 = .ok (.iaload, 1) := by decide +kernel
theorem dX7_mixed_147 : decode cX7_mixed 147 = .ok (.if_icmp .eq 9, 3) := by decide +kernel
theorem dX7_mixed_150 : decode cX7_mixed 150 = .ok (.iinc 3 1, 3) := by decide +kernel
theorem dX7_mixed_153 : decode cX7_mixed 153 = .ok (.goto (-87), 3) := by decide +kernel
theorem dX7_mixed_156 : decode cX7_mixed 156 = .ok (.iload_n 2, 1) := by decide +kernel
theorem dX7_mixed_157 : decode cX7_mixed 157 = .ok (.iconst 1, 1) := by decide +kernel
theorem dX7_mixed_158 : decode cX7_mixed 158 = .ok (.iload_n 3, 1) := by decide +kernel
theorem dX7_mixed_159 : decode cX7_mixed 159 = .ok (.ishl, 1) := by decide +kernel
theorem dX7_mixed_160 : decode cX7_mixed 160 = .ok (.iconst (-1), 1) := by decide +kernel
theorem dX7_mixed_161 : decode cX7_mixed 161 = .ok (.ixor, 1) := by decide +kernel
theorem dX7_mixed_162 : decode cX7_mixed 162 = .ok (.iand, 1) := by decide +kernel
theorem dX7_mixed_163 : decode cX7_mixed 163 = .ok (.istore_n 2, 1) := by decide +kernel
theorem dX7_mixed_164 : decode cX7_mixed 164 = .ok (.iinc 4 1, 3) := by decide +kernel
theorem dX7_mixed_167 : decode cX7_mixed 167 = .ok (.goto (-109), 3) := by decide +kernel
theorem dX7_mixed_170 : decode cX7_mixed 170 = .ok (.iload_n 3, 1) := by decide +kernel
theorem dX7_mixed_171 : decode cX7_mixed 171 = .ok (.ireturn, 1) := by decide +kernel
theorem dX7_churches_0 : decode cX7_churches 0 = .ok (.iload_n 1, 1) := by decide +kernel
theorem dX7_churches_1 : decode cX7_churches 1 = .ok (.i2l, 1) := by decide +kernel
theorem dX7_churches_2 : decode cX7_churches 2 = .ok (.lconst 0, 1) := by decide +kernel
theorem dX7_churches_3 : decode cX7_churches 3 = .ok (.lconst 1, 1) := by decide +kernel
theorem dX7_churches_4 : decode cX7_churches 4 = .ok (.invokestatic 77, 3) := by decide +kernel
theorem dX7_churches_7 : decode cX7_churches 7 = .ok (.ifCond .ne 6, 3) := by decide +kernel
theorem dX7_churches_10 : decode cX7_churches 10 = .ok (.ldc 81, 2) := by decide +kernel
theorem dX7_churches_12 : decode cX7_churches 12 = .ok (.ireturn, 1) := by decide +kernel
theorem dX7_churches_13 : decode cX7_churches 13 = .ok (.aload_n 0, 1) := by decide +kernel
theorem dX7_churches_14 : decode cX7_churches 14 = .ok (.iconst 0, 1) := by decide +kernel
theorem dX7_churches_15 : decode cX7_churches 15 = .ok (.invokevirtual 175, 3) := by decide +kernel
theorem dX7_churches_18 : decode cX7_churches 18 = .ok (.istore_n 2, 1) := by decide +kernel
theorem dX7_churches_19 : decode cX7_churches 19 = .ok (.iconst 0, 1) := by decide +kernel
theorem dX7_churches_20 : decode cX7_churches 20 = .ok (.istore_n 3, 1) := by decide +kernel
theorem dX7_churches_21 : decode cX7_churches 21 = .ok (.iconst (-1), 1) := by decide +kernel
theorem dX7_churches_22 : decode cX7_churches 22 = .ok (.istore 4, 2) := by decide +kernel
theorem dX7_churches_24 : decode cX7_churches 24 = .ok (.iconst 0, 1) := by decide +kernel
theorem dX7_churches_25 : decode cX7_churches 25 = .ok (.istore 5, 2) := by decide +kernel
theorem dX7_churches_27 : decode cX7_churches 27 = .ok (.iload 5, 2) := by decide +kernel
theorem dX7_churches_29 : decode cX7_churches 29 = .ok (.iload_n 2, 1) := by decide +kernel
theorem dX7_churches_30 : decode cX7_churches 30 = .ok (.if_icmp .gt 118, 3) := by decide +kernel
theorem dX7_churches_33 : decode cX7_churches 33 = .ok (.iconst 0, 1) := by decide +kernel
theorem dX7_churches_34 : decode cX7_churches 34 = .ok (.istore 6, 2) := by decide +kernel
theorem dX7_churches_36 : decode cX7_churches 36 = .ok (.iconst 0, 1) := by decide +kernel
theorem dX7_churches_37 : decode cX7_churches 37 = .ok (.istore 7, 2) := by decide +kernel
theorem dX7_churches_39 : decode cX7_churches 39 = .ok (.iload 7, 2) := by decide +kernel
theorem dX7_churches_41 : decode cX7_churches 41 = .ok (.aload_n 0, 1) := by decide +kernel
theorem dX7_churches_42 : decode cX7_churches 42 = .ok (.getfield 36, 3) := by decide +kernel
theorem dX7_churches_45 : decode cX7_churches 45 = .ok (.iconst 1, 1) := by decide +kernel
theorem dX7_churches_46 : decode cX7_churches 46 = .ok (.iaload, 1) := by decide +kernel
theorem dX7_churches_47 : decode cX7_churches 47 = .ok (.if_icmp .ge 61, 3) := by decide +kernel
theorem dX7_churches_50 : decode cX7_churches 50 = .ok (.iload 6, 2) := by decide +kernel
theorem dX7_churches_52 : decode cX7_churches 52 = .ok (.iload_n 2, 1) := by decide +kernel
theorem dX7_churches_53 : decode cX7_churches 53 = .ok (.iload 7, 2) := by decide +kernel
theorem dX7_churches_55 : decode cX7_churches 55 = .ok (.invokestatic 150, 3) := by decide +kernel
theorem dX7_churches_58 : decode cX7_churches 58 = .ok (.ifCond .eq 40, 3) := by decide +kernel
theorem dX7_churches_61 : decode cX7_churches 61 = .ok (.iload 5, 2) := by decide +kernel
theorem dX7_churches_63 : decode cX7_churches 63 = .ok (.iload 7, 2) := by decide +kernel
theorem dX7_churches_65 : decode cX7_churches 65 = .ok (.invokestatic 150, 3) := by decide +kernel
theorem dX7_churches_68 : decode cX7_churches 68 = .ok (.ifCond .eq 16, 3) := by decide +kernel
theorem dX7_churches_71 : decode cX7_churches 71 = .ok (.aload_n 0, 1) := by decide +kernel
theorem dX7_churches_72 : decode cX7_churches 72 = .ok (.getfield 7, 3) := by decide +kernel
theorem dX7_churches_75 : decode cX7_churches 75 = .ok (.bipush 8, 2) := by decide +kernel
theorem dX7_churches_77 : decode cX7_churches 77 = .ok (.iload 7, 2) := by decide +kernel
theorem dX7_churches_79 : decode cX7_churches 79 = .ok (.iadd, 1) := by decide +kernel
theorem dX7_churches_80 : decode cX7_churches 80 = .ok (.iaload, 1) := by decide +kernel
theorem dX7_churches_81 : decode cX7_churches 81 = .ok (.goto 18, 3) := by decide +kernel
theorem dX7_churches_84 : decode cX7_churches 84 = .ok (.aload_n 0, 1) := by decide +kernel
theorem dX7_churches_85 : decode cX7_churches 85 = .ok (.getfield 7, 3) := by decide +kernel
theorem dX7_churches_88 : decode cX7_churches 88 = .ok (.bipush 8, 2) := by decide +kernel
theorem dX7_churches_90 : decode cX7_churches 90 = .ok (.iload 7, 2) := by decide +kernel
theorem dX7_churches_92 : decode cX7_churches 92 = .ok (.iadd, 1) := by decide +kernel
theorem dX7_churches_93 : decode cX7_churches 93 = .ok (.iaload, 1) := by decide +kernel
theorem dX7_churches_94 : decode cX7_churches 94 = .ok (.ineg, 1) := by decide +kernel
theorem dX7_churches_95 : decode cX7_churches 95 = .ok (.goto 4, 3) := by decide +kernel
theorem dX7_churches_98 : decode cX7_churches 98 = .ok (.iconst 0, 1) := by decide +kernel
theorem dX7_churches_99 : decode cX7_churches 99 = .ok (.iadd, 1) := by decide +kernel
theorem dX7_churches_100 : decode cX7_churches 100 = .ok (.istore 6, 2) := by decide +kernel
theorem dX7_churches_102 : decode cX7_churches 102 = .ok (.iinc 7 1, 3) := by decide +kernel
theorem dX7_churches_105 : decode cX7_churches 105 = .ok (.goto (-66), 3) := by decide +kernel
theorem dX7_churches_108 : decode cX7_churches 108 = .ok (.iload 5, 2) := by decide +kernel
theorem dX7_churches_110 : decode cX7_churches 110 = .ok (.iload_n 2, 1) := by decide +kernel
theorem dX7_churches_111 : decode cX7_churches 111 = .ok (.iconst (-1), 1) := by decide +kernel
theorem dX7_churches_112 : decode cX7_churches 112 = .ok (.ixor, 1) := by decide +kernel
theorem dX7_churches_113 : decode cX7_churches 113 = .ok (.iand, 1) := by decide +kernel
theorem dX7_churches_114 : decode cX7_churches 114 = .ok (.ifCond .ne 28, 3) := by decide +kernel
theorem dX7_churches_117 : decode cX7_churches 117 = .ok (.iload 4, 2) := by decide +kernel
theorem dX7_churches_119 : decode cX7_churches 119 = .ok (.ifCond .lt 13, 3) := by decide +kernel
theorem dX7_churches_122 : decode cX7_churches 122 = .ok (.iload 6, 2) := by decide +kernel
theorem dX7_churches_124 : decode cX7_churches 124 = .ok (.invokestatic 242, 3) := by decide +kernel
theorem dX7_churches_127 : decode cX7_churches 127 = .ok (.iload 4, 2) := by decide +kernel
theorem dX7_churches_129 : decode cX7_churches 129 = .ok (.if_icmp .ge 13, 3) := by decide +kernel
theorem dX7_churches_132 : decode cX7_churches 132 = .ok (.iload 5, 2) := by decide +kernel
theorem dX7_churches_134 : decode cX7_churches 134 = .ok (.istore_n 3, 1) := by decide +kernel
theorem dX7_churches_135 : decode cX7_churches 135 = .ok (.iload 6, 2) := by decide +kernel
theorem dX7_churches_137 : decode cX7_churches 137 = .ok (.invokestatic 242, 3) := by decide +kernel
theorem dX7_churches_140 : decode cX7_churches 140 = .ok (.istore 4, 2) := by decide +kernel
theorem dX7_churches_142 : decode cX7_churches 142 = .ok (.iinc 5 1, 3) := by decide +kernel
theorem dX7_churches_145 : decode cX7_churches 145 = .ok (.goto (-118), 3) := by decide +kernel
theorem dX7_churches_148 : decode cX7_churches 148 = .ok (.iload_n 1, 1) := by decide +kernel
theorem dX7_churches_149 : decode cX7_churches 149 = .ok (.ifCond .ne 8, 3) := by decide +kernel
theorem dX7_churches_152 : decode cX7_churches 152 = .ok (.iload 4, 2) := by decide +kernel
theorem dX7_churches_154 : decode cX7_churches 154 = .ok (.goto 4, 3) := by decide +kernel
theorem dX7_churches_157 : decode cX7_churches 157 = .ok (.iload_n 3, 1) := by decide +kernel
theorem dX7_churches_158 : decode cX7_churches 158 = .ok (.ireturn, 1) := by decide +kernel
theorem dX7_write_0 : decode cX7_write 0 = .ok (.aload_n 0, 1) := by decide +kernel
theorem dX7_write_1 : decode cX7_write 1 = .ok (.iload_n 1, 1) := by decide +kernel
theorem dX7_write_2 : decode cX7_write 2 = .ok (.invokevirtual 190, 3) := by decide +kernel
theorem dX7_write_5 : decode cX7_write 5 = .ok (.ifCond .eq 11, 3) := by decide +kernel
theorem dX7_write_8 : decode cX7_write 8 = .ok (.aload_n 0, 1) := by decide +kernel
theorem dX7_write_9 : decode cX7_write 9 = .ok (.iload_n 2, 1) := by decide +kernel
theorem dX7_write_10 : decode cX7_write 10 = .ok (.invokevirtual 182, 3) := by decide +kernel
theorem dX7_write_13 : decode cX7_write 13 = .ok (.ifCond .ne 6, 3) := by decide +kernel
theorem dX7_write_16 : decode cX7_write 16 = .ok (.ldc 186, 2) := by decide +kernel
theorem dX7_write_18 : decode cX7_write 18 = .ok (.ireturn, 1) := by decide +kernel
theorem dX7_write_19 : decode cX7_write 19 = .ok (.aload_n 0, 1) := by decide +kernel
theorem dX7_write_20 : decode cX7_write 20 = .ok (.getfield 147, 3) := by decide +kernel
theorem dX7_write_23 : decode cX7_write 23 = .ok (.bipush 20, 2) := by decide +kernel
theorem dX7_write_25 : decode cX7_write 25 = .ok (.if_icmp .ne 6, 3) := by decide +kernel
theorem dX7_write_28 : decode cX7_write 28 = .ok (.ldc 85, 2) := by decide +kernel
theorem dX7_write_30 : decode cX7_write 30 = .ok (.ireturn, 1) := by decide +kernel
theorem dX7_write_31 : decode cX7_write 31 = .ok (.aload_n 0, 1) := by decide +kernel
theorem dX7_write_32 : decode cX7_write 32 = .ok (.getfield 66, 3) := by decide +kernel
theorem dX7_write_35 : decode cX7_write 35 = .ok (.aload_n 0, 1) := by decide +kernel
theorem dX7_write_36 : decode cX7_write 36 = .ok (.getfield 147, 3) := by decide +kernel
theorem dX7_write_39 : decode cX7_write 39 = .ok (.iload_n 1, 1) := by decide +kernel
theorem dX7_write_40 : decode cX7_write 40 = .ok (.iastore, 1) := by decide +kernel
theorem dX7_write_41 : decode cX7_write 41 = .ok (.aload_n 0, 1) := by decide +kernel
theorem dX7_write_42 : decode cX7_write 42 = .ok (.getfield 69, 3) := by decide +kernel
theorem dX7_write_45 : decode cX7_write 45 = .ok (.aload_n 0, 1) := by decide +kernel
theorem dX7_write_46 : decode cX7_write 46 = .ok (.getfield 147, 3) := by decide +kernel
theorem dX7_write_49 : decode cX7_write 49 = .ok (.iload_n 2, 1) := by decide +kernel
theorem dX7_write_50 : decode cX7_write 50 = .ok (.iastore, 1) := by decide +kernel
theorem dX7_write_51 : decode cX7_write 51 = .ok (.aload_n 0, 1) := by decide +kernel
theorem dX7_write_52 : decode cX7_write 52 = .ok (.dup, 1) := by decide +kernel
theorem dX7_write_53 : decode cX7_write 53 = .ok (.getfield 147, 3) := by decide +kernel
theorem dX7_write_56 : decode cX7_write 56 = .ok (.iconst 1, 1) := by decide +kernel
theorem dX7_write_57 : decode cX7_write 57 = .ok (.iadd, 1) := by decide +kernel
theorem dX7_write_58 : decode cX7_write 58 = .ok (.putfield 147, 3) := by decide +kernel
theorem dX7_write_61 : decode cX7_write 61 = .ok (.aload_n 0, 1) := by decide +kernel
theorem dX7_write_62 : decode cX7_write 62 = .ok (.getfield 147, 3) := by decide +kernel
theorem dX7_write_65 : decode cX7_write 65 = .ok (.ireturn, 1) := by decide +kernel
theorem dX7_tear_0 : decode cX7_tear 0 = .ok (.aload_n 0, 1) := by decide +kernel
theorem dX7_tear_1 : decode cX7_tear 1 = .ok (.getfield 147, 3) := by decide +kernel
theorem dX7_tear_4 : decode cX7_tear 4 = .ok (.istore_n 1, 1) := by decide +kernel
theorem dX7_tear_5 : decode cX7_tear 5 = .ok (.aload_n 0, 1) := by decide +kernel
theorem dX7_tear_6 : decode cX7_tear 6 = .ok (.iconst 0, 1) := by decide +kernel
theorem dX7_tear_7 : decode cX7_tear 7 = .ok (.putfield 147, 3) := by decide +kernel
theorem dX7_tear_10 : decode cX7_tear 10 = .ok (.iload_n 1, 1) := by decide +kernel
theorem dX7_tear_11 : decode cX7_tear 11 = .ok (.ireturn, 1) := by decide +kernel
theorem dX7_judge_0 : decode cX7_judge 0 = .ok (.aload_n 0, 1) := by decide +kernel
theorem dX7_judge_1 : decode cX7_judge 1 = .ok (.iconst 0, 1) := by decide +kernel
theorem dX7_judge_2 : decode cX7_judge 2 = .ok (.bipush 100, 2) := by decide +kernel
theorem dX7_judge_4 : decode cX7_judge 4 = .ok (.invokevirtual 257, 3) := by decide +kernel
theorem dX7_judge_7 : decode cX7_judge 7 = .ok (.iconst 0, 1) := by decide +kernel
theorem dX7_judge_8 : decode cX7_judge 8 = .ok (.istore_n 1, 1) := by decide +kernel
theorem dX7_judge_9 : decode cX7_judge 9 = .ok (.iload_n 1, 1) := by decide +kernel
theorem dX7_judge_10 : decode cX7_judge 10 = .ok (.aload_n 0, 1) := by decide +kernel
theorem dX7_judge_11 : decode cX7_judge 11 = .ok (.getfield 147, 3) := by decide +kernel
theorem dX7_judge_14 : decode cX7_judge 14 = .ok (.if_icmp .ge 78, 3) := by decide +kernel
theorem dX7_judge_17 : decode cX7_judge 17 = .ok (.aload_n 0, 1) := by decide +kernel
theorem dX7_judge_18 : decode cX7_judge 18 = .ok (.getfield 66, 3) := by decide +kernel
theorem dX7_judge_21 : decode cX7_judge 21 = .ok (.iload_n 1, 1) := by decide +kernel
theorem dX7_judge_22 : decode cX7_judge 22 = .ok (.iaload, 1) := by decide +kernel
theorem dX7_judge_23 : decode cX7_judge 23 = .ok (.istore_n 2, 1) := by decide +kernel
theorem dX7_judge_24 : decode cX7_judge 24 = .ok (.aload_n 0, 1) := by decide +kernel
theorem dX7_judge_25 : decode cX7_judge 25 = .ok (.getfield 69, 3) := by decide +kernel
theorem dX7_judge_28 : decode cX7_judge 28 = .ok (.iload_n 1, 1) := by decide +kernel
theorem dX7_judge_29 : decode cX7_judge 29 = .ok (.iaload, 1) := by decide +kernel
theorem dX7_judge_30 : decode cX7_judge 30 = .ok (.istore_n 3, 1) := by decide +kernel
theorem dX7_judge_31 : decode cX7_judge 31 = .ok (.aload_n 0, 1) := by decide +kernel
theorem dX7_judge_32 : decode cX7_judge 32 = .ok (.bipush 100, 2) := by decide +kernel
theorem dX7_judge_34 : decode cX7_judge 34 = .ok (.iload_n 2, 1) := by decide +kernel
theorem dX7_judge_35 : decode cX7_judge 35 = .ok (.invokevirtual 154, 3) := by decide +kernel
theorem dX7_judge_38 : decode cX7_judge 38 = .ok (.ifCond .eq 36, 3) := by decide +kernel
theorem dX7_judge_41 : decode cX7_judge 41 = .ok (.aload_n 0, 1) := by decide +kernel
theorem dX7_judge_42 : decode cX7_judge 42 = .ok (.bipush 100, 2) := by decide +kernel
theorem dX7_judge_44 : decode cX7_judge 44 = .ok (.iload_n 3, 1) := by decide +kernel
theorem dX7_judge_45 : decode cX7_judge 45 = .ok (.invokevirtual 187, 3) := by decide +kernel
theorem dX7_judge_48 : decode cX7_judge 48 = .ok (.ifCond .ge 26, 3) := by decide +kernel
theorem dX7_judge_51 : decode cX7_judge 51 = .ok (.aload_n 0, 1) := by decide +kernel
theorem dX7_judge_52 : decode cX7_judge 52 = .ok (.getfield 7, 3) := by decide +kernel
theorem dX7_judge_55 : decode cX7_judge 55 = .ok (.bipush 100, 2) := by decide +kernel
theorem dX7_judge_57 : decode cX7_judge 57 = .ok (.iload_n 3, 1) := by decide +kernel
theorem dX7_judge_58 : decode cX7_judge 58 = .ok (.iadd, 1) := by decide +kernel
theorem dX7_judge_59 : decode cX7_judge 59 = .ok (.iaload, 1) := by decide +kernel
theorem dX7_judge_60 : decode cX7_judge 60 = .ok (.ifCond .gt 14, 3) := by decide +kernel
theorem dX7_judge_63 : decode cX7_judge 63 = .ok (.aload_n 0, 1) := by decide +kernel
theorem dX7_judge_64 : decode cX7_judge 64 = .ok (.bipush 100, 2) := by decide +kernel
theorem dX7_judge_66 : decode cX7_judge 66 = .ok (.iconst 0, 1) := by decide +kernel
theorem dX7_judge_67 : decode cX7_judge 67 = .ok (.invokevirtual 193, 3) := by decide +kernel
theorem dX7_judge_70 : decode cX7_judge 70 = .ok (.iload_n 2, 1) := by decide +kernel
theorem dX7_judge_71 : decode cX7_judge 71 = .ok (.if_icmp .eq 5, 3) := by decide +kernel
theorem dX7_judge_74 : decode cX7_judge 74 = .ok (.iload_n 1, 1) := by decide +kernel
theorem dX7_judge_75 : decode cX7_judge 75 = .ok (.ireturn, 1) := by decide +kernel
theorem dX7_judge_76 : decode cX7_judge 76 = .ok (.aload_n 0, 1) := by decide +kernel
theorem dX7_judge_77 : decode cX7_judge 77 = .ok (.bipush 100, 2) := by decide +kernel
theorem dX7_judge_79 : decode cX7_judge 79 = .ok (.iload_n 2, 1) := by decide +kernel
theorem dX7_judge_80 : decode cX7_judge 80 = .ok (.iload_n 3, 1) := by decide +kernel
theorem dX7_judge_81 : decode cX7_judge 81 = .ok (.invokevirtual 230, 3) := by decide +kernel
theorem dX7_judge_84 : decode cX7_judge 84 = .ok (.istore 4, 2) := by decide +kernel
theorem dX7_judge_86 : decode cX7_judge 86 = .ok (.iinc 1 1, 3) := by decide +kernel
theorem dX7_judge_89 : decode cX7_judge 89 = .ok (.goto (-80), 3) := by decide +kernel
theorem dX7_judge_92 : decode cX7_judge 92 = .ok (.iconst (-1), 1) := by decide +kernel
theorem dX7_judge_93 : decode cX7_judge 93 = .ok (.ireturn, 1) := by decide +kernel
theorem dX7_seed_0 : decode cX7_seed 0 = .ok (.iload_n 1, 1) := by decide +kernel
theorem dX7_seed_1 : decode cX7_seed 1 = .ok (.ifCond .ge 6, 3) := by decide +kernel
theorem dX7_seed_4 : decode cX7_seed 4 = .ok (.ldc 81, 2) := by decide +kernel
theorem dX7_seed_6 : decode cX7_seed 6 = .ok (.ireturn, 1) := by decide +kernel
theorem dX7_seed_7 : decode cX7_seed 7 = .ok (.aload_n 0, 1) := by decide +kernel
theorem dX7_seed_8 : decode cX7_seed 8 = .ok (.getfield 7, 3) := by decide +kernel
theorem dX7_seed_11 : decode cX7_seed 11 = .ok (.bipush 73, 2) := by decide +kernel
theorem dX7_seed_13 : decode cX7_seed 13 = .ok (.iaload, 1) := by decide +kernel
theorem dX7_seed_14 : decode cX7_seed 14 = .ok (.istore_n 2, 1) := by decide +kernel
theorem dX7_seed_15 : decode cX7_seed 15 = .ok (.aload_n 0, 1) := by decide +kernel
theorem dX7_seed_16 : decode cX7_seed 16 = .ok (.getfield 7, 3) := by decide +kernel
theorem dX7_seed_19 : decode cX7_seed 19 = .ok (.bipush 73, 2) := by decide +kernel
theorem dX7_seed_21 : decode cX7_seed 21 = .ok (.iload_n 1, 1) := by decide +kernel
theorem dX7_seed_22 : decode cX7_seed 22 = .ok (.iastore, 1) := by decide +kernel
theorem dX7_seed_23 : decode cX7_seed 23 = .ok (.iload_n 2, 1) := by decide +kernel
theorem dX7_seed_24 : decode cX7_seed 24 = .ok (.ireturn, 1) := by decide +kernel
theorem dX7_keep_0 : decode cX7_keep 0 = .ok (.iload_n 1, 1) := by decide +kernel
theorem dX7_keep_1 : decode cX7_keep 1 = .ok (.i2l, 1) := by decide +kernel
theorem dX7_keep_2 : decode cX7_keep 2 = .ok (.lconst 0, 1) := by decide +kernel
theorem dX7_keep_3 : decode cX7_keep 3 = .ok (.lconst 1, 1) := by decide +kernel
theorem dX7_keep_4 : decode cX7_keep 4 = .ok (.invokestatic 77, 3) := by decide +kernel
theorem dX7_keep_7 : decode cX7_keep 7 = .ok (.ifCond .ne 6, 3) := by decide +kernel
theorem dX7_keep_10 : decode cX7_keep 10 = .ok (.ldc 186, 2) := by decide +kernel
theorem dX7_keep_12 : decode cX7_keep 12 = .ok (.ireturn, 1) := by decide +kernel
theorem dX7_keep_13 : decode cX7_keep 13 = .ok (.aload_n 0, 1) := by decide +kernel
theorem dX7_keep_14 : decode cX7_keep 14 = .ok (.iconst 0, 1) := by decide +kernel
theorem dX7_keep_15 : decode cX7_keep 15 = .ok (.sipush 200, 3) := by decide +kernel
theorem dX7_keep_18 : decode cX7_keep 18 = .ok (.bipush 100, 2) := by decide +kernel
theorem dX7_keep_20 : decode cX7_keep 20 = .ok (.iload_n 1, 1) := by decide +kernel
theorem dX7_keep_21 : decode cX7_keep 21 = .ok (.imul, 1) := by decide +kernel
theorem dX7_keep_22 : decode cX7_keep 22 = .ok (.iadd, 1) := by decide +kernel
theorem dX7_keep_23 : decode cX7_keep 23 = .ok (.invokevirtual 257, 3) := by decide +kernel
theorem dX7_keep_26 : decode cX7_keep 26 = .ok (.aload_n 0, 1) := by decide +kernel
theorem dX7_keep_27 : decode cX7_keep 27 = .ok (.getfield 13, 3) := by decide +kernel
theorem dX7_keep_30 : decode cX7_keep 30 = .ok (.iload_n 1, 1) := by decide +kernel
theorem dX7_keep_31 : decode cX7_keep 31 = .ok (.iconst 1, 1) := by decide +kernel
theorem dX7_keep_32 : decode cX7_keep 32 = .ok (.bastore, 1) := by decide +kernel
theorem dX7_keep_33 : decode cX7_keep 33 = .ok (.iconst 1, 1) := by decide +kernel
theorem dX7_keep_34 : decode cX7_keep 34 = .ok (.ireturn, 1) := by decide +kernel
theorem dX7_goBack_0 : decode cX7_goBack 0 = .ok (.iload_n 1, 1) := by decide +kernel
theorem dX7_goBack_1 : decode cX7_goBack 1 = .ok (.i2l, 1) := by decide +kernel
theorem dX7_goBack_2 : decode cX7_goBack 2 = .ok (.lconst 0, 1) := by decide +kernel
theorem dX7_goBack_3 : decode cX7_goBack 3 = .ok (.lconst 1, 1) := by decide +kernel
theorem dX7_goBack_4 : decode cX7_goBack 4 = .ok (.invokestatic 77, 3) := by decide +kernel
theorem dX7_goBack_7 : decode cX7_goBack 7 = .ok (.ifCond .ne 6, 3) := by decide +kernel
theorem dX7_goBack_10 : decode cX7_goBack 10 = .ok (.ldc 186, 2) := by decide +kernel
theorem dX7_goBack_12 : decode cX7_goBack 12 = .ok (.ireturn, 1) := by decide +kernel
theorem dX7_goBack_13 : decode cX7_goBack 13 = .ok (.aload_n 0, 1) := by decide +kernel
theorem dX7_goBack_14 : decode cX7_goBack 14 = .ok (.getfield 13, 3) := by decide +kernel
theorem dX7_goBack_17 : decode cX7_goBack 17 = .ok (.iload_n 1, 1) := by decide +kernel
theorem dX7_goBack_18 : decode cX7_goBack 18 = .ok (.baload, 1) := by decide +kernel
theorem dX7_goBack_19 : decode cX7_goBack 19 = .ok (.ifCond .ne 6, 3) := by decide +kernel
theorem dX7_goBack_22 : decode cX7_goBack 22 = .ok (.ldc 200, 2) := by decide +kernel
theorem dX7_goBack_24 : decode cX7_goBack 24 = .ok (.ireturn, 1) := by decide +kernel
theorem dX7_goBack_25 : decode cX7_goBack 25 = .ok (.aload_n 0, 1) := by decide +kernel
theorem dX7_goBack_26 : decode cX7_goBack 26 = .ok (.sipush 200, 3) := by decide +kernel
theorem dX7_goBack_29 : decode cX7_goBack 29 = .ok (.bipush 100, 2) := by decide +kernel
theorem dX7_goBack_31 : decode cX7_goBack 31 = .ok (.iload_n 1, 1) := by decide +kernel
theorem dX7_goBack_32 : decode cX7_goBack 32 = .ok (.imul, 1) := by decide +kernel
theorem dX7_goBack_33 : decode cX7_goBack 33 = .ok (.iadd, 1) := by decide +kernel
theorem dX7_goBack_34 : decode cX7_goBack 34 = .ok (.iconst 0, 1) := by decide +kernel
theorem dX7_goBack_35 : decode cX7_goBack 35 = .ok (.invokevirtual 257, 3) := by decide +kernel
theorem dX7_goBack_38 : decode cX7_goBack 38 = .ok (.iconst 1, 1) := by decide +kernel
theorem dX7_goBack_39 : decode cX7_goBack 39 = .ok (.ireturn, 1) := by decide +kernel
theorem dJ6_numberOfTrailingZeros_0f7a4_0 : decode cJ6_numberOfTrailingZeros_0f7a4 0 = .ok (.iload_n 0, 1) := by decide +kernel
theorem dJ6_numberOfTrailingZeros_0f7a4_1 : decode cJ6_numberOfTrailingZeros_0f7a4 1 = .ok (.iconst (-1), 1) := by decide +kernel
theorem dJ6_numberOfTrailingZeros_0f7a4_2 : decode cJ6_numberOfTrailingZeros_0f7a4 2 = .ok (.ixor, 1) := by decide +kernel
theorem dJ6_numberOfTrailingZeros_0f7a4_3 : decode cJ6_numberOfTrailingZeros_0f7a4 3 = .ok (.iload_n 0, 1) := by decide +kernel
theorem dJ6_numberOfTrailingZeros_0f7a4_4 : decode cJ6_numberOfTrailingZeros_0f7a4 4 = .ok (.iconst 1, 1) := by decide +kernel
theorem dJ6_numberOfTrailingZeros_0f7a4_5 : decode cJ6_numberOfTrailingZeros_0f7a4 5 = .ok (.isub, 1) := by decide +kernel
theorem dJ6_numberOfTrailingZeros_0f7a4_6 : decode cJ6_numberOfTrailingZeros_0f7a4 6 = .ok (.iand, 1) := by decide +kernel
end
section
theorem dJ6_numberOfTrailingZeros_0f7a4_7 : decode cJ6_numberOfTrailingZeros_0f7a4 7 = .ok (.istore_n 0, 1) := by decide +kernel
theorem dJ6_numberOfTrailingZeros_0f7a4_8 : decode cJ6_numberOfTrailingZeros_0f7a4 8 = .ok (.iload_n 0, 1) := by decide +kernel
theorem dJ6_numberOfTrailingZeros_0f7a4_9 : decode cJ6_numberOfTrailingZeros_0f7a4 9 = .ok (.ifCond .gt 8, 3) := by decide +kernel
theorem dJ6_numberOfTrailingZeros_0f7a4_12 : decode cJ6_numberOfTrailingZeros_0f7a4 12 = .ok (.iload_n 0, 1) := by decide +kernel
theorem dJ6_numberOfTrailingZeros_0f7a4_13 : decode cJ6_numberOfTrailingZeros_0f7a4 13 = .ok (.bipush 32, 2) := by decide +kernel
theorem dJ6_numberOfTrailingZeros_0f7a4_15 : decode cJ6_numberOfTrailingZeros_0f7a4 15 = .ok (.iand, 1) := by decide +kernel
theorem dJ6_numberOfTrailingZeros_0f7a4_16 : decode cJ6_numberOfTrailingZeros_0f7a4 16 = .ok (.ireturn, 1) := by decide +kernel
theorem dJ6_numberOfTrailingZeros_0f7a4_17 : decode cJ6_numberOfTrailingZeros_0f7a4 17 = .ok (.iconst 1, 1) := by decide +kernel
theorem dJ6_numberOfTrailingZeros_0f7a4_18 : decode cJ6_numberOfTrailingZeros_0f7a4 18 = .ok (.istore_n 1, 1) := by decide +kernel
theorem dJ6_numberOfTrailingZeros_0f7a4_19 : decode cJ6_numberOfTrailingZeros_0f7a4 19 = .ok (.iload_n 0, 1) := by decide +kernel
theorem dJ6_numberOfTrailingZeros_0f7a4_20 : decode cJ6_numberOfTrailingZeros_0f7a4 20 = .ok (.ldc_w 264, 3) := by decide +kernel
theorem dJ6_numberOfTrailingZeros_0f7a4_23 : decode cJ6_numberOfTrailingZeros_0f7a4 23 = .ok (.if_icmp .le 11, 3) := by decide +kernel
theorem dJ6_numberOfTrailingZeros_0f7a4_26 : decode cJ6_numberOfTrailingZeros_0f7a4 26 = .ok (.iinc 1 16, 3) := by decide +kernel
theorem dJ6_numberOfTrailingZeros_0f7a4_29 : decode cJ6_numberOfTrailingZeros_0f7a4 29 = .ok (.iload_n 0, 1) := by decide +kernel
theorem dJ6_numberOfTrailingZeros_0f7a4_30 : decode cJ6_numberOfTrailingZeros_0f7a4 30 = .ok (.bipush 16, 2) := by decide +kernel
theorem dJ6_numberOfTrailingZeros_0f7a4_32 : decode cJ6_numberOfTrailingZeros_0f7a4 32 = .ok (.iushr, 1) := by decide +kernel
theorem dJ6_numberOfTrailingZeros_0f7a4_33 : decode cJ6_numberOfTrailingZeros_0f7a4 33 = .ok (.istore_n 0, 1) := by decide +kernel
theorem dJ6_numberOfTrailingZeros_0f7a4_34 : decode cJ6_numberOfTrailingZeros_0f7a4 34 = .ok (.iload_n 0, 1) := by decide +kernel
theorem dJ6_numberOfTrailingZeros_0f7a4_35 : decode cJ6_numberOfTrailingZeros_0f7a4 35 = .ok (.sipush 256, 3) := by decide +kernel
theorem dJ6_numberOfTrailingZeros_0f7a4_38 : decode cJ6_numberOfTrailingZeros_0f7a4 38 = .ok (.if_icmp .le 11, 3) := by decide +kernel
theorem dJ6_numberOfTrailingZeros_0f7a4_41 : decode cJ6_numberOfTrailingZeros_0f7a4 41 = .ok (.iinc 1 8, 3) := by decide +kernel
theorem dJ6_numberOfTrailingZeros_0f7a4_44 : decode cJ6_numberOfTrailingZeros_0f7a4 44 = .ok (.iload_n 0, 1) := by decide +kernel
theorem dJ6_numberOfTrailingZeros_0f7a4_45 : decode cJ6_numberOfTrailingZeros_0f7a4 45 = .ok (.bipush 8, 2) := by decide +kernel
theorem dJ6_numberOfTrailingZeros_0f7a4_47 : decode cJ6_numberOfTrailingZeros_0f7a4 47 = .ok (.iushr, 1) := by decide +kernel
theorem dJ6_numberOfTrailingZeros_0f7a4_48 : decode cJ6_numberOfTrailingZeros_0f7a4 48 = .ok (.istore_n 0, 1) := by decide +kernel
theorem dJ6_numberOfTrailingZeros_0f7a4_49 : decode cJ6_numberOfTrailingZeros_0f7a4 49 = .ok (.iload_n 0, 1) := by decide +kernel
theorem dJ6_numberOfTrailingZeros_0f7a4_50 : decode cJ6_numberOfTrailingZeros_0f7a4 50 = .ok (.bipush 16, 2) := by decide +kernel
theorem dJ6_numberOfTrailingZeros_0f7a4_52 : decode cJ6_numberOfTrailingZeros_0f7a4 52 = .ok (.if_icmp .le 10, 3) := by decide +kernel
theorem dJ6_numberOfTrailingZeros_0f7a4_55 : decode cJ6_numberOfTrailingZeros_0f7a4 55 = .ok (.iinc 1 4, 3) := by decide +kernel
theorem dJ6_numberOfTrailingZeros_0f7a4_58 : decode cJ6_numberOfTrailingZeros_0f7a4 58 = .ok (.iload_n 0, 1) := by decide +kernel
theorem dJ6_numberOfTrailingZeros_0f7a4_59 : decode cJ6_numberOfTrailingZeros_0f7a4 59 = .ok (.iconst 4, 1) := by decide +kernel
theorem dJ6_numberOfTrailingZeros_0f7a4_60 : decode cJ6_numberOfTrailingZeros_0f7a4 60 = .ok (.iushr, 1) := by decide +kernel
theorem dJ6_numberOfTrailingZeros_0f7a4_61 : decode cJ6_numberOfTrailingZeros_0f7a4 61 = .ok (.istore_n 0, 1) := by decide +kernel
theorem dJ6_numberOfTrailingZeros_0f7a4_62 : decode cJ6_numberOfTrailingZeros_0f7a4 62 = .ok (.iload_n 0, 1) := by decide +kernel
theorem dJ6_numberOfTrailingZeros_0f7a4_63 : decode cJ6_numberOfTrailingZeros_0f7a4 63 = .ok (.iconst 4, 1) := by decide +kernel
theorem dJ6_numberOfTrailingZeros_0f7a4_64 : decode cJ6_numberOfTrailingZeros_0f7a4 64 = .ok (.if_icmp .le 10, 3) := by decide +kernel
theorem dJ6_numberOfTrailingZeros_0f7a4_67 : decode cJ6_numberOfTrailingZeros_0f7a4 67 = .ok (.iinc 1 2, 3) := by decide +kernel
theorem dJ6_numberOfTrailingZeros_0f7a4_70 : decode cJ6_numberOfTrailingZeros_0f7a4 70 = .ok (.iload_n 0, 1) := by decide +kernel
theorem dJ6_numberOfTrailingZeros_0f7a4_71 : decode cJ6_numberOfTrailingZeros_0f7a4 71 = .ok (.iconst 2, 1) := by decide +kernel
theorem dJ6_numberOfTrailingZeros_0f7a4_72 : decode cJ6_numberOfTrailingZeros_0f7a4 72 = .ok (.iushr, 1) := by decide +kernel
theorem dJ6_numberOfTrailingZeros_0f7a4_73 : decode cJ6_numberOfTrailingZeros_0f7a4 73 = .ok (.istore_n 0, 1) := by decide +kernel
theorem dJ6_numberOfTrailingZeros_0f7a4_74 : decode cJ6_numberOfTrailingZeros_0f7a4 74 = .ok (.iload_n 1, 1) := by decide +kernel
theorem dJ6_numberOfTrailingZeros_0f7a4_75 : decode cJ6_numberOfTrailingZeros_0f7a4 75 = .ok (.iload_n 0, 1) := by decide +kernel
theorem dJ6_numberOfTrailingZeros_0f7a4_76 : decode cJ6_numberOfTrailingZeros_0f7a4 76 = .ok (.iconst 1, 1) := by decide +kernel
theorem dJ6_numberOfTrailingZeros_0f7a4_77 : decode cJ6_numberOfTrailingZeros_0f7a4 77 = .ok (.iushr, 1) := by decide +kernel
theorem dJ6_numberOfTrailingZeros_0f7a4_78 : decode cJ6_numberOfTrailingZeros_0f7a4 78 = .ok (.iadd, 1) := by decide +kernel
theorem dJ6_numberOfTrailingZeros_0f7a4_79 : decode cJ6_numberOfTrailingZeros_0f7a4 79 = .ok (.ireturn, 1) := by decide +kernel
theorem dJ6_bitCount_0f7a4_0 : decode cJ6_bitCount_0f7a4 0 = .ok (.iload_n 0, 1) := by decide +kernel
theorem dJ6_bitCount_0f7a4_1 : decode cJ6_bitCount_0f7a4 1 = .ok (.iload_n 0, 1) := by decide +kernel
theorem dJ6_bitCount_0f7a4_2 : decode cJ6_bitCount_0f7a4 2 = .ok (.iconst 1, 1) := by decide +kernel
theorem dJ6_bitCount_0f7a4_3 : decode cJ6_bitCount_0f7a4 3 = .ok (.iushr, 1) := by decide +kernel
theorem dJ6_bitCount_0f7a4_4 : decode cJ6_bitCount_0f7a4 4 = .ok (.ldc_w 265, 3) := by decide +kernel
theorem dJ6_bitCount_0f7a4_7 : decode cJ6_bitCount_0f7a4 7 = .ok (.iand, 1) := by decide +kernel
theorem dJ6_bitCount_0f7a4_8 : decode cJ6_bitCount_0f7a4 8 = .ok (.isub, 1) := by decide +kernel
theorem dJ6_bitCount_0f7a4_9 : decode cJ6_bitCount_0f7a4 9 = .ok (.istore_n 0, 1) := by decide +kernel
theorem dJ6_bitCount_0f7a4_10 : decode cJ6_bitCount_0f7a4 10 = .ok (.iload_n 0, 1) := by decide +kernel
theorem dJ6_bitCount_0f7a4_11 : decode cJ6_bitCount_0f7a4 11 = .ok (.ldc_w 266, 3) := by decide +kernel
theorem dJ6_bitCount_0f7a4_14 : decode cJ6_bitCount_0f7a4 14 = .ok (.iand, 1) := by decide +kernel
theorem dJ6_bitCount_0f7a4_15 : decode cJ6_bitCount_0f7a4 15 = .ok (.iload_n 0, 1) := by decide +kernel
theorem dJ6_bitCount_0f7a4_16 : decode cJ6_bitCount_0f7a4 16 = .ok (.iconst 2, 1) := by decide +kernel
theorem dJ6_bitCount_0f7a4_17 : decode cJ6_bitCount_0f7a4 17 = .ok (.iushr, 1) := by decide +kernel
theorem dJ6_bitCount_0f7a4_18 : decode cJ6_bitCount_0f7a4 18 = .ok (.ldc_w 266, 3) := by decide +kernel
theorem dJ6_bitCount_0f7a4_21 : decode cJ6_bitCount_0f7a4 21 = .ok (.iand, 1) := by decide +kernel
theorem dJ6_bitCount_0f7a4_22 : decode cJ6_bitCount_0f7a4 22 = .ok (.iadd, 1) := by decide +kernel
theorem dJ6_bitCount_0f7a4_23 : decode cJ6_bitCount_0f7a4 23 = .ok (.istore_n 0, 1) := by decide +kernel
theorem dJ6_bitCount_0f7a4_24 : decode cJ6_bitCount_0f7a4 24 = .ok (.iload_n 0, 1) := by decide +kernel
theorem dJ6_bitCount_0f7a4_25 : decode cJ6_bitCount_0f7a4 25 = .ok (.iload_n 0, 1) := by decide +kernel
theorem dJ6_bitCount_0f7a4_26 : decode cJ6_bitCount_0f7a4 26 = .ok (.iconst 4, 1) := by decide +kernel
theorem dJ6_bitCount_0f7a4_27 : decode cJ6_bitCount_0f7a4 27 = .ok (.iushr, 1) := by decide +kernel
theorem dJ6_bitCount_0f7a4_28 : decode cJ6_bitCount_0f7a4 28 = .ok (.iadd, 1) := by decide +kernel
theorem dJ6_bitCount_0f7a4_29 : decode cJ6_bitCount_0f7a4 29 = .ok (.ldc_w 267, 3) := by decide +kernel
theorem dJ6_bitCount_0f7a4_32 : decode cJ6_bitCount_0f7a4 32 = .ok (.iand, 1) := by decide +kernel
theorem dJ6_bitCount_0f7a4_33 : decode cJ6_bitCount_0f7a4 33 = .ok (.istore_n 0, 1) := by decide +kernel
theorem dJ6_bitCount_0f7a4_34 : decode cJ6_bitCount_0f7a4 34 = .ok (.iload_n 0, 1) := by decide +kernel
theorem dJ6_bitCount_0f7a4_35 : decode cJ6_bitCount_0f7a4 35 = .ok (.iload_n 0, 1) := by decide +kernel
theorem dJ6_bitCount_0f7a4_36 : decode cJ6_bitCount_0f7a4 36 = .ok (.bipush 8, 2) := by decide +kernel
theorem dJ6_bitCount_0f7a4_38 : decode cJ6_bitCount_0f7a4 38 = .ok (.iushr, 1) := by decide +kernel
theorem dJ6_bitCount_0f7a4_39 : decode cJ6_bitCount_0f7a4 39 = .ok (.iadd, 1) := by decide +kernel
theorem dJ6_bitCount_0f7a4_40 : decode cJ6_bitCount_0f7a4 40 = .ok (.istore_n 0, 1) := by decide +kernel
theorem dJ6_bitCount_0f7a4_41 : decode cJ6_bitCount_0f7a4 41 = .ok (.iload_n 0, 1) := by decide +kernel
theorem dJ6_bitCount_0f7a4_42 : decode cJ6_bitCount_0f7a4 42 = .ok (.iload_n 0, 1) := by decide +kernel
theorem dJ6_bitCount_0f7a4_43 : decode cJ6_bitCount_0f7a4 43 = .ok (.bipush 16, 2) := by decide +kernel
theorem dJ6_bitCount_0f7a4_45 : decode cJ6_bitCount_0f7a4 45 = .ok (.iushr, 1) := by decide +kernel
theorem dJ6_bitCount_0f7a4_46 : decode cJ6_bitCount_0f7a4 46 = .ok (.iadd, 1) := by decide +kernel
theorem dJ6_bitCount_0f7a4_47 : decode cJ6_bitCount_0f7a4 47 = .ok (.istore_n 0, 1) := by decide +kernel
theorem dJ6_bitCount_0f7a4_48 : decode cJ6_bitCount_0f7a4 48 = .ok (.iload_n 0, 1) := by decide +kernel
theorem dJ6_bitCount_0f7a4_49 : decode cJ6_bitCount_0f7a4 49 = .ok (.bipush 63, 2) := by decide +kernel
theorem dJ6_bitCount_0f7a4_51 : decode cJ6_bitCount_0f7a4 51 = .ok (.iand, 1) := by decide +kernel
theorem dJ6_bitCount_0f7a4_52 : decode cJ6_bitCount_0f7a4 52 = .ok (.ireturn, 1) := by decide +kernel
theorem dJ9_abs_0f7a4_0 : decode cJ9_abs_0f7a4 0 = .ok (.iload_n 0, 1) := by decide +kernel
theorem dJ9_abs_0f7a4_1 : decode cJ9_abs_0f7a4 1 = .ok (.ifCond .ge 8, 3) := by decide +kernel
theorem dJ9_abs_0f7a4_4 : decode cJ9_abs_0f7a4 4 = .ok (.iload_n 0, 1) := by decide +kernel
theorem dJ9_abs_0f7a4_5 : decode cJ9_abs_0f7a4 5 = .ok (.ineg, 1) := by decide +kernel
theorem dJ9_abs_0f7a4_6 : decode cJ9_abs_0f7a4 6 = .ok (.goto 4, 3) := by decide +kernel
theorem dJ9_abs_0f7a4_9 : decode cJ9_abs_0f7a4 9 = .ok (.iload_n 0, 1) := by decide +kernel
theorem dJ9_abs_0f7a4_10 : decode cJ9_abs_0f7a4 10 = .ok (.ireturn, 1) := by decide +kernel
theorem dJ9_max_7cf53_0 : decode cJ9_max_7cf53 0 = .ok (.iload_n 0, 1) := by decide +kernel
theorem dJ9_max_7cf53_1 : decode cJ9_max_7cf53 1 = .ok (.iload_n 1, 1) := by decide +kernel
theorem dJ9_max_7cf53_2 : decode cJ9_max_7cf53 2 = .ok (.if_icmp .lt 7, 3) := by decide +kernel
theorem dJ9_max_7cf53_5 : decode cJ9_max_7cf53 5 = .ok (.iload_n 0, 1) := by decide +kernel
theorem dJ9_max_7cf53_6 : decode cJ9_max_7cf53 6 = .ok (.goto 4, 3) := by decide +kernel
theorem dJ9_max_7cf53_9 : decode cJ9_max_7cf53 9 = .ok (.iload_n 1, 1) := by decide +kernel
theorem dJ9_max_7cf53_10 : decode cJ9_max_7cf53 10 = .ok (.ireturn, 1) := by decide +kernel
theorem dJ9_min_7cf53_0 : decode cJ9_min_7cf53 0 = .ok (.iload_n 0, 1) := by decide +kernel
theorem dJ9_min_7cf53_1 : decode cJ9_min_7cf53 1 = .ok (.iload_n 1, 1) := by decide +kernel
theorem dJ9_min_7cf53_2 : decode cJ9_min_7cf53 2 = .ok (.if_icmp .gt 7, 3) := by decide +kernel
theorem dJ9_min_7cf53_5 : decode cJ9_min_7cf53 5 = .ok (.iload_n 0, 1) := by decide +kernel
theorem dJ9_min_7cf53_6 : decode cJ9_min_7cf53 6 = .ok (.goto 4, 3) := by decide +kernel
theorem dJ9_min_7cf53_9 : decode cJ9_min_7cf53 9 = .ok (.iload_n 1, 1) := by decide +kernel
theorem dJ9_min_7cf53_10 : decode cJ9_min_7cf53 10 = .ok (.ireturn, 1) := by decide +kernel
theorem dJ0_length_8abf5_0 : decode cJ0_length_8abf5 0 = .ok (.aload_n 0, 1) := by decide +kernel
theorem dJ0_length_8abf5_1 : decode cJ0_length_8abf5 1 = .ok (.getfield 9, 3) := by decide +kernel
theorem dJ0_length_8abf5_4 : decode cJ0_length_8abf5 4 = .ok (.arraylength, 1) := by decide +kernel
theorem dJ0_length_8abf5_5 : decode cJ0_length_8abf5 5 = .ok (.aload_n 0, 1) := by decide +kernel
theorem dJ0_length_8abf5_6 : decode cJ0_length_8abf5 6 = .ok (.invokevirtual 335, 3) := by decide +kernel
theorem dJ0_length_8abf5_9 : decode cJ0_length_8abf5 9 = .ok (.ishr, 1) := by decide +kernel
theorem dJ0_length_8abf5_10 : decode cJ0_length_8abf5 10 = .ok (.ireturn, 1) := by decide +kernel
theorem dJ0_charAt_5068e_0 : decode cJ0_charAt_5068e 0 = .ok (.aload_n 0, 1) := by decide +kernel
theorem dJ0_charAt_5068e_1 : decode cJ0_charAt_5068e 1 = .ok (.invokevirtual 492, 3) := by decide +kernel
theorem dJ0_charAt_5068e_4 : decode cJ0_charAt_5068e 4 = .ok (.ifCond .eq 12, 3) := by decide +kernel
theorem dJ0_charAt_5068e_7 : decode cJ0_charAt_5068e 7 = .ok (.aload_n 0, 1) := by decide +kernel
theorem dJ0_charAt_5068e_8 : decode cJ0_charAt_5068e 8 = .ok (.getfield 9, 3) := by decide +kernel
theorem dJ0_charAt_5068e_11 : decode cJ0_charAt_5068e 11 = .ok (.iload_n 1, 1) := by decide +kernel
theorem dJ0_charAt_5068e_12 : decode cJ0_charAt_5068e 12 = .ok (.invokestatic 495, 3) := by decide +kernel
theorem dJ0_charAt_5068e_15 : decode cJ0_charAt_5068e 15 = .ok (.ireturn, 1) := by decide +kernel
theorem dJ0_charAt_5068e_16 : decode cJ0_charAt_5068e 16 = .ok (.aload_n 0, 1) := by decide +kernel
theorem dJ0_charAt_5068e_17 : decode cJ0_charAt_5068e 17 = .ok (.getfield 9, 3) := by decide +kernel
theorem dJ0_charAt_5068e_20 : decode cJ0_charAt_5068e 20 = .ok (.iload_n 1, 1) := by decide +kernel
theorem dJ0_charAt_5068e_21 : decode cJ0_charAt_5068e 21 = .ok (.invokestatic 498, 3) := by decide +kernel
theorem dJ0_charAt_5068e_24 : decode cJ0_charAt_5068e 24 = .ok (.ireturn, 1) := by decide +kernel
theorem dJ0_coder_7d493_0 : decode cJ0_coder_7d493 0 = .ok (.getstatic 38, 3) := by decide +kernel
theorem dJ0_coder_7d493_3 : decode cJ0_coder_7d493 3 = .ok (.ifCond .eq 10, 3) := by decide +kernel
theorem dJ0_coder_7d493_6 : decode cJ0_coder_7d493 6 = .ok (.aload_n 0, 1) := by decide +kernel
theorem dJ0_coder_7d493_7 : decode cJ0_coder_7d493 7 = .ok (.getfield 15, 3) := by decide +kernel
theorem dJ0_coder_7d493_10 : decode cJ0_coder_7d493 10 = .ok (.goto 4, 3) := by decide +kernel
theorem dJ0_coder_7d493_13 : decode cJ0_coder_7d493 13 = .ok (.iconst 1, 1) := by decide +kernel
theorem dJ0_coder_7d493_14 : decode cJ0_coder_7d493 14 = .ok (.ireturn, 1) := by decide +kernel
theorem dJ0_isLatin1_aae02_0 : decode cJ0_isLatin1_aae02 0 = .ok (.getstatic 38, 3) := by decide +kernel
theorem dJ0_isLatin1_aae02_3 : decode cJ0_isLatin1_aae02 3 = .ok (.ifCond .eq 14, 3) := by decide +kernel
theorem dJ0_isLatin1_aae02_6 : decode cJ0_isLatin1_aae02 6 = .ok (.aload_n 0, 1) := by decide +kernel
theorem dJ0_isLatin1_aae02_7 : decode cJ0_isLatin1_aae02 7 = .ok (.getfield 15, 3) := by decide +kernel
theorem dJ0_isLatin1_aae02_10 : decode cJ0_isLatin1_aae02 10 = .ok (.ifCond .ne 7, 3) := by decide +kernel
theorem dJ0_isLatin1_aae02_13 : decode cJ0_isLatin1_aae02 13 = .ok (.iconst 1, 1) := by decide +kernel
theorem dJ0_isLatin1_aae02_14 : decode cJ0_isLatin1_aae02 14 = .ok (.goto 4, 3) := by decide +kernel
theorem dJ0_isLatin1_aae02_17 : decode cJ0_isLatin1_aae02 17 = .ok (.iconst 0, 1) := by decide +kernel
theorem dJ0_isLatin1_aae02_18 : decode cJ0_isLatin1_aae02 18 = .ok (.ireturn, 1) := by decide +kernel
theorem dJ0_checkIndex_df160_0 : decode cJ0_checkIndex_df160 0 = .ok (.iload_n 0, 1) := by decide +kernel
theorem dJ0_checkIndex_df160_1 : decode cJ0_checkIndex_df160 1 = .ok (.iload_n 1, 1) := by decide +kernel
theorem dJ0_checkIndex_df160_2 : decode cJ0_checkIndex_df160 2 = .ok (.getstatic 1053, 3) := by decide +kernel
theorem dJ0_checkIndex_df160_5 : decode cJ0_checkIndex_df160 5 = .ok (.invokestatic 1059, 3) := by decide +kernel
theorem dJ0_checkIndex_df160_8 : decode cJ0_checkIndex_df160 8 = .ok (.pop, 1) := by decide +kernel
theorem dJ0_checkIndex_df160_9 : decode cJ0_checkIndex_df160 9 = .ok (.return_, 1) := by decide +kernel
theorem dJ1_charAt_3b067_0 : decode cJ1_charAt_3b067 0 = .ok (.iload_n 1, 1) := by decide +kernel
theorem dJ1_charAt_3b067_1 : decode cJ1_charAt_3b067 1 = .ok (.aload_n 0, 1) := by decide +kernel
theorem dJ1_charAt_3b067_2 : decode cJ1_charAt_3b067 2 = .ok (.arraylength, 1) := by decide +kernel
theorem dJ1_charAt_3b067_3 : decode cJ1_charAt_3b067 3 = .ok (.invokestatic 9, 3) := by decide +kernel
theorem dJ1_charAt_3b067_6 : decode cJ1_charAt_3b067 6 = .ok (.aload_n 0, 1) := by decide +kernel
theorem dJ1_charAt_3b067_7 : decode cJ1_charAt_3b067 7 = .ok (.iload_n 1, 1) := by decide +kernel
theorem dJ1_charAt_3b067_8 : decode cJ1_charAt_3b067 8 = .ok (.baload, 1) := by decide +kernel
theorem dJ1_charAt_3b067_9 : decode cJ1_charAt_3b067 9 = .ok (.sipush 255, 3) := by decide +kernel
theorem dJ1_charAt_3b067_12 : decode cJ1_charAt_3b067 12 = .ok (.iand, 1) := by decide +kernel
theorem dJ1_charAt_3b067_13 : decode cJ1_charAt_3b067 13 = .ok (.i2c, 1) := by decide +kernel
theorem dJ1_charAt_3b067_14 : decode cJ1_charAt_3b067 14 = .ok (.ireturn, 1) := by decide +kernel
theorem dJ2_getChar_3b067_0 : decode cJ2_getChar_3b067 0 = .ok (.getstatic 44, 3) := by decide +kernel
theorem dJ2_getChar_3b067_3 : decode cJ2_getChar_3b067 3 = .ok (.ifCond .ne 25, 3) := by decide +kernel
theorem dJ2_getChar_3b067_6 : decode cJ2_getChar_3b067 6 = .ok (.iload_n 1, 1) := by decide +kernel
theorem dJ2_getChar_3b067_7 : decode cJ2_getChar_3b067 7 = .ok (.ifCond .lt 11, 3) := by decide +kernel
theorem dJ2_getChar_3b067_10 : decode cJ2_getChar_3b067 10 = .ok (.iload_n 1, 1) := by decide +kernel
theorem dJ2_getChar_3b067_11 : decode cJ2_getChar_3b067 11 = .ok (.aload_n 0, 1) := by decide +kernel
theorem dJ2_getChar_3b067_12 : decode cJ2_getChar_3b067 12 = .ok (.invokestatic 48, 3) := by decide +kernel
theorem dJ2_getChar_3b067_15 : decode cJ2_getChar_3b067 15 = .ok (.if_icmp .lt 13, 3) := by decide +kernel
theorem dJ2_getChar_3b067_18 : decode cJ2_getChar_3b067 18 = .ok (.new 52, 3) := by decide +kernel
theorem dJ2_getChar_3b067_21 : decode cJ2_getChar_3b067 21 = .ok (.dup, 1) := by decide +kernel
theorem dJ2_getChar_3b067_22 : decode cJ2_getChar_3b067 22 = .ok (.ldc 54, 2) := by decide +kernel
theorem dJ2_getChar_3b067_24 : decode cJ2_getChar_3b067 24 = .ok (.invokespecial 56, 3) := by decide +kernel
theorem dJ2_getChar_3b067_27 : decode cJ2_getChar_3b067 27 = .ok (.athrow, 1) := by decide +kernel
theorem dJ2_getChar_3b067_28 : decode cJ2_getChar_3b067 28 = .ok (.iload_n 1, 1) := by decide +kernel
theorem dJ2_getChar_3b067_29 : decode cJ2_getChar_3b067 29 = .ok (.iconst 1, 1) := by decide +kernel
theorem dJ2_getChar_3b067_30 : decode cJ2_getChar_3b067 30 = .ok (.ishl, 1) := by decide +kernel
theorem dJ2_getChar_3b067_31 : decode cJ2_getChar_3b067 31 = .ok (.istore_n 1, 1) := by decide +kernel
theorem dJ2_getChar_3b067_32 : decode cJ2_getChar_3b067 32 = .ok (.aload_n 0, 1) := by decide +kernel
theorem dJ2_getChar_3b067_33 : decode cJ2_getChar_3b067 33 = .ok (.iload_n 1, 1) := by decide +kernel
theorem dJ2_getChar_3b067_34 : decode cJ2_getChar_3b067 34 = .ok (.iinc 1 1, 3) := by decide +kernel
theorem dJ2_getChar_3b067_37 : decode cJ2_getChar_3b067 37 = .ok (.baload, 1) := by decide +kernel
theorem dJ2_getChar_3b067_38 : decode cJ2_getChar_3b067 38 = .ok (.sipush 255, 3) := by decide +kernel
theorem dJ2_getChar_3b067_41 : decode cJ2_getChar_3b067 41 = .ok (.iand, 1) := by decide +kernel
theorem dJ2_getChar_3b067_42 : decode cJ2_getChar_3b067 42 = .ok (.getstatic 59, 3) := by decide +kernel
theorem dJ2_getChar_3b067_45 : decode cJ2_getChar_3b067 45 = .ok (.ishl, 1) := by decide +kernel
theorem dJ2_getChar_3b067_46 : decode cJ2_getChar_3b067 46 = .ok (.aload_n 0, 1) := by decide +kernel
theorem dJ2_getChar_3b067_47 : decode cJ2_getChar_3b067 47 = .ok (.iload_n 1, 1) := by decide +kernel
theorem dJ2_getChar_3b067_48 : decode cJ2_getChar_3b067 48 = .ok (.baload, 1) := by decide +kernel
theorem dJ2_getChar_3b067_49 : decode cJ2_getChar_3b067 49 = .ok (.sipush 255, 3) := by decide +kernel
theorem dJ2_getChar_3b067_52 : decode cJ2_getChar_3b067 52 = .ok (.iand, 1) := by decide +kernel
theorem dJ2_getChar_3b067_53 : decode cJ2_getChar_3b067 53 = .ok (.getstatic 63, 3) := by decide +kernel
theorem dJ2_getChar_3b067_56 : decode cJ2_getChar_3b067 56 = .ok (.ishl, 1) := by decide +kernel
theorem dJ2_getChar_3b067_57 : decode cJ2_getChar_3b067 57 = .ok (.ior, 1) := by decide +kernel
theorem dJ2_getChar_3b067_58 : decode cJ2_getChar_3b067 58 = .ok (.i2c, 1) := by decide +kernel
theorem dJ2_getChar_3b067_59 : decode cJ2_getChar_3b067 59 = .ok (.ireturn, 1) := by decide +kernel
theorem dJ2_length_9d52b_0 : decode cJ2_length_9d52b 0 = .ok (.aload_n 0, 1) := by decide +kernel
theorem dJ2_length_9d52b_1 : decode cJ2_length_9d52b 1 = .ok (.arraylength, 1) := by decide +kernel
theorem dJ2_length_9d52b_2 : decode cJ2_length_9d52b 2 = .ok (.iconst 1, 1) := by decide +kernel
theorem dJ2_length_9d52b_3 : decode cJ2_length_9d52b 3 = .ok (.ishr, 1) := by decide +kernel
theorem dJ2_length_9d52b_4 : decode cJ2_length_9d52b 4 = .ok (.ireturn, 1) := by decide +kernel
theorem dJ2_charAt_3b067_0 : decode cJ2_charAt_3b067 0 = .ok (.iload_n 1, 1) := by decide +kernel
theorem dJ2_charAt_3b067_1 : decode cJ2_charAt_3b067 1 = .ok (.aload_n 0, 1) := by decide +kernel
theorem dJ2_charAt_3b067_2 : decode cJ2_charAt_3b067 2 = .ok (.invokestatic 67, 3) := by decide +kernel
theorem dJ2_charAt_3b067_5 : decode cJ2_charAt_3b067 5 = .ok (.aload_n 0, 1) := by decide +kernel
theorem dJ2_charAt_3b067_6 : decode cJ2_charAt_3b067 6 = .ok (.iload_n 1, 1) := by decide +kernel
theorem dJ2_charAt_3b067_7 : decode cJ2_charAt_3b067 7 = .ok (.invokestatic 71, 3) := by decide +kernel
theorem dJ2_charAt_3b067_10 : decode cJ2_charAt_3b067 10 = .ok (.ireturn, 1) := by decide +kernel
theorem dJ2_checkIndex_2214a_0 : decode cJ2_checkIndex_2214a 0 = .ok (.iload_n 0, 1) := by decide +kernel
theorem dJ2_checkIndex_2214a_1 : decode cJ2_checkIndex_2214a 1 = .ok (.aload_n 1, 1) := by decide +kernel
theorem dJ2_checkIndex_2214a_2 : decode cJ2_checkIndex_2214a 2 = .ok (.invokestatic 48, 3) := by decide +kernel
theorem dJ2_checkIndex_2214a_5 : decode cJ2_checkIndex_2214a 5 = .ok (.invokestatic 414, 3) := by decide +kernel
theorem dJ2_checkIndex_2214a_8 : decode cJ2_checkIndex_2214a 8 = .ok (.return_, 1) := by decide +kernel
theorem dJ3_checkIndex_8e157_0 : decode cJ3_checkIndex_8e157 0 = .ok (.iload_n 0, 1) := by decide +kernel
theorem dJ3_checkIndex_8e157_1 : decode cJ3_checkIndex_8e157 1 = .ok (.ifCond .lt 8, 3) := by decide +kernel
theorem dJ3_checkIndex_8e157_4 : decode cJ3_checkIndex_8e157 4 = .ok (.iload_n 0, 1) := by decide +kernel
theorem dJ3_checkIndex_8e157_5 : decode cJ3_checkIndex_8e157 5 = .ok (.iload_n 1, 1) := by decide +kernel
theorem dJ3_checkIndex_8e157_6 : decode cJ3_checkIndex_8e157 6 = .ok (.if_icmp .lt 10, 3) := by decide +kernel
theorem dJ3_checkIndex_8e157_9 : decode cJ3_checkIndex_8e157 9 = .ok (.aload_n 2, 1) := by decide +kernel
theorem dJ3_checkIndex_8e157_10 : decode cJ3_checkIndex_8e157 10 = .ok (.iload_n 0, 1) := by decide +kernel
theorem dJ3_checkIndex_8e157_11 : decode cJ3_checkIndex_8e157 11 = .ok (.iload_n 1, 1) := by decide +kernel
theorem dJ3_checkIndex_8e157_12 : decode cJ3_checkIndex_8e157 12 = .ok (.invokestatic 95, 3) := by decide +kernel
theorem dJ3_checkIndex_8e157_15 : decode cJ3_checkIndex_8e157 15 = .ok (.athrow, 1) := by decide +kernel
theorem dJ3_checkIndex_8e157_16 : decode cJ3_checkIndex_8e157 16 = .ok (.iload_n 0, 1) := by decide +kernel
theorem dJ3_checkIndex_8e157_17 : decode cJ3_checkIndex_8e157 17 = .ok (.ireturn, 1) := by decide +kernel
theorem dL_law_0 : decode cL_law 0 = .ok (.new 7, 3) := by decide +kernel
theorem dL_law_3 : decode cL_law 3 = .ok (.dup, 1) := by decide +kernel
theorem dL_law_4 : decode cL_law 4 = .ok (.invokespecial 9, 3) := by decide +kernel
theorem dL_law_7 : decode cL_law 7 = .ok (.astore_n 1, 1) := by decide +kernel
theorem dL_law_8 : decode cL_law 8 = .ok (.new 10, 3) := by decide +kernel
theorem dL_law_11 : decode cL_law 11 = .ok (.dup, 1) := by decide +kernel
theorem dL_law_12 : decode cL_law 12 = .ok (.invokespecial 12, 3) := by decide +kernel
theorem dL_law_15 : decode cL_law 15 = .ok (.astore_n 2, 1) := by decide +kernel
theorem dL_law_16 : decode cL_law 16 = .ok (.iconst 0, 1) := by decide +kernel
theorem dL_law_17 : decode cL_law 17 = .ok (.istore_n 3, 1) := by decide +kernel
theorem dL_law_18 : decode cL_law 18 = .ok (.iload_n 3, 1) := by decide +kernel
theorem dL_law_19 : decode cL_law 19 = .ok (.aload_n 0, 1) := by decide +kernel
theorem dL_law_20 : decode cL_law 20 = .ok (.arraylength, 1) := by decide +kernel
theorem dL_law_21 : decode cL_law 21 = .ok (.iconst 5, 1) := by decide +kernel
theorem dL_law_22 : decode cL_law 22 = .ok (.isub, 1) := by decide +kernel
theorem dL_law_23 : decode cL_law 23 = .ok (.if_icmp .gt 1015, 3) := by decide +kernel
theorem dL_law_26 : decode cL_law 26 = .ok (.aload_n 0, 1) := by decide +kernel
theorem dL_law_27 : decode cL_law 27 = .ok (.iload_n 3, 1) := by decide +kernel
theorem dL_law_28 : decode cL_law 28 = .ok (.iaload, 1) := by decide +kernel
theorem dL_law_29 : decode cL_law 29 = .ok (.bipush 31, 2) := by decide +kernel
theorem dL_law_31 : decode cL_law 31 = .ok (.iand, 1) := by decide +kernel
theorem dL_law_32 : decode cL_law 32 = .ok (.tableswitch 1000 0 31 #[144, 207, 220, 233, 246, 269, 302, 335, 358, 391, 424, 447, 470, 503, 536, 569, 592, 605, 628, 661, 714, 747, 780, 813, 826, 849, 872, 905, 918, 931, 954, 977], 144) := by decide +kernel
theorem dL_law_176 : decode cL_law 176 = .ok (.aload_n 1, 1) := by decide +kernel
theorem dL_law_177 : decode cL_law 177 = .ok (.aload_n 0, 1) := by decide +kernel
theorem dL_law_178 : decode cL_law 178 = .ok (.iload_n 3, 1) := by decide +kernel
theorem dL_law_179 : decode cL_law 179 = .ok (.iconst 1, 1) := by decide +kernel
theorem dL_law_180 : decode cL_law 180 = .ok (.iadd, 1) := by decide +kernel
theorem dL_law_181 : decode cL_law 181 = .ok (.iaload, 1) := by decide +kernel
theorem dL_law_182 : decode cL_law 182 = .ok (.aload_n 0, 1) := by decide +kernel
theorem dL_law_183 : decode cL_law 183 = .ok (.iload_n 3, 1) := by decide +kernel
theorem dL_law_184 : decode cL_law 184 = .ok (.iconst 2, 1) := by decide +kernel
theorem dL_law_185 : decode cL_law 185 = .ok (.iadd, 1) := by decide +kernel
theorem dL_law_186 : decode cL_law 186 = .ok (.iaload, 1) := by decide +kernel
theorem dL_law_187 : decode cL_law 187 = .ok (.i2l, 1) := by decide +kernel
theorem dL_law_188 : decode cL_law 188 = .ok (.bipush 32, 2) := by decide +kernel
theorem dL_law_190 : decode cL_law 190 = .ok (.lshl, 1) := by decide +kernel
theorem dL_law_191 : decode cL_law 191 = .ok (.aload_n 0, 1) := by decide +kernel
theorem dL_law_192 : decode cL_law 192 = .ok (.iload_n 3, 1) := by decide +kernel
theorem dL_law_193 : decode cL_law 193 = .ok (.iconst 3, 1) := by decide +kernel
theorem dL_law_194 : decode cL_law 194 = .ok (.iadd, 1) := by decide +kernel
theorem dL_law_195 : decode cL_law 195 = .ok (.iaload, 1) := by decide +kernel
theorem dL_law_196 : decode cL_law 196 = .ok (.i2l, 1) := by decide +kernel
theorem dL_law_197 : decode cL_law 197 = .ok (.ldc2_w 13, 3) := by decide +kernel
theorem dL_law_200 : decode cL_law 200 = .ok (.land, 1) := by decide +kernel
theorem dL_law_201 : decode cL_law 201 = .ok (.lor, 1) := by decide +kernel
theorem dL_law_202 : decode cL_law 202 = .ok (.invokevirtual 15, 3) := by decide +kernel
theorem dL_law_205 : decode cL_law 205 = .ok (.aload_n 2, 1) := by decide +kernel
theorem dL_law_206 : decode cL_law 206 = .ok (.aload_n 0, 1) := by decide +kernel
theorem dL_law_207 : decode cL_law 207 = .ok (.iload_n 3, 1) := by decide +kernel
theorem dL_law_208 : decode cL_law 208 = .ok (.iconst 1, 1) := by decide +kernel
theorem dL_law_209 : decode cL_law 209 = .ok (.iadd, 1) := by decide +kernel
theorem dL_law_210 : decode cL_law 210 = .ok (.iaload, 1) := by decide +kernel
theorem dL_law_211 : decode cL_law 211 = .ok (.aload_n 0, 1) := by decide +kernel
theorem dL_law_212 : decode cL_law 212 = .ok (.iload_n 3, 1) := by decide +kernel
theorem dL_law_213 : decode cL_law 213 = .ok (.iconst 2, 1) := by decide +kernel
theorem dL_law_214 : decode cL_law 214 = .ok (.iadd, 1) := by decide +kernel
theorem dL_law_215 : decode cL_law 215 = .ok (.iaload, 1) := by decide +kernel
theorem dL_law_216 : decode cL_law 216 = .ok (.i2l, 1) := by decide +kernel
theorem dL_law_217 : decode cL_law 217 = .ok (.bipush 32, 2) := by decide +kernel
theorem dL_law_219 : decode cL_law 219 = .ok (.lshl, 1) := by decide +kernel
theorem dL_law_220 : decode cL_law 220 = .ok (.aload_n 0, 1) := by decide +kernel
theorem dL_law_221 : decode cL_law 221 = .ok (.iload_n 3, 1) := by decide +kernel
theorem dL_law_222 : decode cL_law 222 = .ok (.iconst 3, 1) := by decide +kernel
theorem dL_law_223 : decode cL_law 223 = .ok (.iadd, 1) := by decide +kernel
theorem dL_law_224 : decode cL_law 224 = .ok (.iaload, 1) := by decide +kernel
theorem dL_law_225 : decode cL_law 225 = .ok (.i2l, 1) := by decide +kernel
theorem dL_law_226 : decode cL_law 226 = .ok (.ldc2_w 13, 3) := by decide +kernel
theorem dL_law_229 : decode cL_law 229 = .ok (.land, 1) := by decide +kernel
theorem dL_law_230 : decode cL_law 230 = .ok (.lor, 1) := by decide +kernel
theorem dL_law_231 : decode cL_law 231 = .ok (.invokevirtual 19, 3) := by decide +kernel
theorem dL_law_234 : decode cL_law 234 = .ok (.if_icmp .eq 798, 3) := by decide +kernel
theorem dL_law_237 : decode cL_law 237 = .ok (.iconst 0, 1) := by decide +kernel
theorem dL_law_238 : decode cL_law 238 = .ok (.ireturn, 1) := by decide +kernel
theorem dL_law_239 : decode cL_law 239 = .ok (.aload_n 1, 1) := by decide +kernel
theorem dL_law_240 : decode cL_law 240 = .ok (.invokevirtual 20, 3) := by decide +kernel
theorem dL_law_243 : decode cL_law 243 = .ok (.aload_n 2, 1) := by decide +kernel
theorem dL_law_244 : decode cL_law 244 = .ok (.invokevirtual 24, 3) := by decide +kernel
theorem dL_law_247 : decode cL_law 247 = .ok (.if_icmp .eq 785, 3) := by decide +kernel
theorem dL_law_250 : decode cL_law 250 = .ok (.iconst 0, 1) := by decide +kernel
theorem dL_law_251 : decode cL_law 251 = .ok (.ireturn, 1) := by decide +kernel
theorem dL_law_252 : decode cL_law 252 = .ok (.aload_n 1, 1) := by decide +kernel
theorem dL_law_253 : decode cL_law 253 = .ok (.invokevirtual 25, 3) := by decide +kernel
theorem dL_law_256 : decode cL_law 256 = .ok (.aload_n 2, 1) := by decide +kernel
theorem dL_law_257 : decode cL_law 257 = .ok (.invokevirtual 28, 3) := by decide +kernel
theorem dL_law_260 : decode cL_law 260 = .ok (.if_icmp .eq 772, 3) := by decide +kernel
theorem dL_law_263 : decode cL_law 263 = .ok (.iconst 0, 1) := by decide +kernel
theorem dL_law_264 : decode cL_law 264 = .ok (.ireturn, 1) := by decide +kernel
theorem dL_law_265 : decode cL_law 265 = .ok (.aload_n 1, 1) := by decide +kernel
theorem dL_law_266 : decode cL_law 266 = .ok (.invokevirtual 29, 3) := by decide +kernel
theorem dL_law_269 : decode cL_law 269 = .ok (.aload_n 2, 1) := by decide +kernel
theorem dL_law_270 : decode cL_law 270 = .ok (.invokevirtual 32, 3) := by decide +kernel
theorem dL_law_273 : decode cL_law 273 = .ok (.if_icmp .eq 759, 3) := by decide +kernel
theorem dL_law_276 : decode cL_law 276 = .ok (.iconst 0, 1) := by decide +kernel
theorem dL_law_277 : decode cL_law 277 = .ok (.ireturn, 1) := by decide +kernel
theorem dL_law_278 : decode cL_law 278 = .ok (.aload_n 1, 1) := by decide +kernel
theorem dL_law_279 : decode cL_law 279 = .ok (.aload_n 0, 1) := by decide +kernel
theorem dL_law_280 : decode cL_law 280 = .ok (.iload_n 3, 1) := by decide +kernel
theorem dL_law_281 : decode cL_law 281 = .ok (.iconst 1, 1) := by decide +kernel
theorem dL_law_282 : decode cL_law 282 = .ok (.iadd, 1) := by decide +kernel
theorem dL_law_283 : decode cL_law 283 = .ok (.iaload, 1) := by decide +kernel
theorem dL_law_284 : decode cL_law 284 = .ok (.invokevirtual 33, 3) := by decide +kernel
theorem dL_law_287 : decode cL_law 287 = .ok (.aload_n 2, 1) := by decide +kernel
theorem dL_law_288 : decode cL_law 288 = .ok (.aload_n 0, 1) := by decide +kernel
theorem dL_law_289 : decode cL_law 289 = .ok (.iload_n 3, 1) := by decide +kernel
theorem dL_law_290 : decode cL_law 290 = .ok (.iconst 1, 1) := by decide +kernel
theorem dL_law_291 : decode cL_law 291 = .ok (.iadd, 1) := by decide +kernel
theorem dL_law_292 : decode cL_law 292 = .ok (.iaload, 1) := by decide +kernel
theorem dL_law_293 : decode cL_law 293 = .ok (.invokevirtual 37, 3) := by decide +kernel
theorem dL_law_296 : decode cL_law 296 = .ok (.if_icmp .eq 736, 3) := by decide +kernel
theorem dL_law_299 : decode cL_law 299 = .ok (.iconst 0, 1) := by decide +kernel
theorem dL_law_300 : decode cL_law 300 = .ok (.ireturn, 1) := by decide +kernel
theorem dL_law_301 : decode cL_law 301 = .ok (.aload_n 1, 1) := by decide +kernel
theorem dL_law_302 : decode cL_law 302 = .ok (.aload_n 0, 1) := by decide +kernel
theorem dL_law_303 : decode cL_law 303 = .ok (.iload_n 3, 1) := by decide +kernel
theorem dL_law_304 : decode cL_law 304 = .ok (.iconst 1, 1) := by decide +kernel
theorem dL_law_305 : decode cL_law 305 = .ok (.iadd, 1) := by decide +kernel
theorem dL_law_306 : decode cL_law 306 = .ok (.iaload, 1) := by decide +kernel
theorem dL_law_307 : decode cL_law 307 = .ok (.aload_n 0, 1) := by decide +kernel
theorem dL_law_308 : decode cL_law 308 = .ok (.iload_n 3, 1) := by decide +kernel
theorem dL_law_309 : decode cL_law 309 = .ok (.iconst 2, 1) := by decide +kernel
theorem dL_law_310 : decode cL_law 310 = .ok (.iadd, 1) := by decide +kernel
theorem dL_law_311 : decode cL_law 311 = .ok (.iaload, 1) := by decide +kernel
theorem dL_law_312 : decode cL_law 312 = .ok (.invokevirtual 38, 3) := by decide +kernel
theorem dL_law_315 : decode cL_law 315 = .ok (.aload_n 2, 1) := by decide +kernel
theorem dL_law_316 : decode cL_law 316 = .ok (.aload_n 0, 1) := by decide +kernel
theorem dL_law_317 : decode cL_law 317 = .ok (.iload_n 3, 1) := by decide +kernel
theorem dL_law_318 : decode cL_law 318 = .ok (.iconst 1, 1) := by decide +kernel
theorem dL_law_319 : decode cL_law 319 = .ok (.iadd, 1) := by decide +kernel
theorem dL_law_320 : decode cL_law 320 = .ok (.iaload, 1) := by decide +kernel
theorem dL_law_321 : decode cL_law 321 = .ok (.aload_n 0, 1) := by decide +kernel
theorem dL_law_322 : decode cL_law 322 = .ok (.iload_n 3, 1) := by decide +kernel
theorem dL_law_323 : decode cL_law 323 = .ok (.iconst 2, 1) := by decide +kernel
theorem dL_law_324 : decode cL_law 324 = .ok (.iadd, 1) := by decide +kernel
theorem dL_law_325 : decode cL_law 325 = .ok (.iaload, 1) := by decide +kernel
theorem dL_law_326 : decode cL_law 326 = .ok (.invokevirtual 42, 3) := by decide +kernel
theorem dL_law_329 : decode cL_law 329 = .ok (.if_icmp .eq 703, 3) := by decide +kernel
theorem dL_law_332 : decode cL_law 332 = .ok (.iconst 0, 1) := by decide +kernel
theorem dL_law_333 : decode cL_law 333 = .ok (.ireturn, 1) := by decide +kernel
theorem dL_law_334 : decode cL_law 334 = .ok (.aload_n 1, 1) := by decide +kernel
theorem dL_law_335 : decode cL_law 335 = .ok (.aload_n 0, 1) := by decide +kernel
theorem dL_law_336 : decode cL_law 336 = .ok (.iload_n 3, 1) := by decide +kernel
theorem dL_law_337 : decode cL_law 337 = .ok (.iconst 1, 1) := by decide +kernel
theorem dL_law_338 : decode cL_law 338 = .ok (.iadd, 1) := by decide +kernel
theorem dL_law_339 : decode cL_law 339 = .ok (.iaload, 1) := by decide +kernel
theorem dL_law_340 : decode cL_law 340 = .ok (.aload_n 0, 1) := by decide +kernel
theorem dL_law_341 : decode cL_law 341 = .ok (.iload_n 3, 1) := by decide +kernel
theorem dL_law_342 : decode cL_law 342 = .ok (.iconst 2, 1) := by decide +kernel
theorem dL_law_343 : decode cL_law 343 = .ok (.iadd, 1) := by decide +kernel
theorem dL_law_344 : decode cL_law 344 = .ok (.iaload, 1) := by decide +kernel
theorem dL_law_345 : decode cL_law 345 = .ok (.invokevirtual 43, 3) := by decide +kernel
theorem dL_law_348 : decode cL_law 348 = .ok (.aload_n 2, 1) := by decide +kernel
theorem dL_law_349 : decode cL_law 349 = .ok (.aload_n 0, 1) := by decide +kernel
theorem dL_law_350 : decode cL_law 350 = .ok (.iload_n 3, 1) := by decide +kernel
theorem dL_law_351 : decode cL_law 351 = .ok (.iconst 1, 1) := by decide +kernel
theorem dL_law_352 : decode cL_law 352 = .ok (.iadd, 1) := by decide +kernel
theorem dL_law_353 : decode cL_law 353 = .ok (.iaload, 1) := by decide +kernel
theorem dL_law_354 : decode cL_law 354 = .ok (.aload_n 0, 1) := by decide +kernel
theorem dL_law_355 : decode cL_law 355 = .ok (.iload_n 3, 1) := by decide +kernel
theorem dL_law_356 : decode cL_law 356 = .ok (.iconst 2, 1) := by decide +kernel
theorem dL_law_357 : decode cL_law 357 = .ok (.iadd, 1) := by decide +kernel
theorem dL_law_358 : decode cL_law 358 = .ok (.iaload, 1) := by decide +kernel
theorem dL_law_359 : decode cL_law 359 = .ok (.invokevirtual 46, 3) := by decide +kernel
theorem dL_law_362 : decode cL_law 362 = .ok (.if_icmp .eq 670, 3) := by decide +kernel
theorem dL_law_365 : decode cL_law 365 = .ok (.iconst 0, 1) := by decide +kernel
theorem dL_law_366 : decode cL_law 366 = .ok (.ireturn, 1) := by decide +kernel
theorem dL_law_367 : decode cL_law 367 = .ok (.aload_n 1, 1) := by decide +kernel
theorem dL_law_368 : decode cL_law 368 = .ok (.aload_n 0, 1) := by decide +kernel
theorem dL_law_369 : decode cL_law 369 = .ok (.iload_n 3, 1) := by decide +kernel
theorem dL_law_370 : decode cL_law 370 = .ok (.iconst 1, 1) := by decide +kernel
theorem dL_law_371 : decode cL_law 371 = .ok (.iadd, 1) := by decide +kernel
theorem dL_law_372 : decode cL_law 372 = .ok (.iaload, 1) := by decide +kernel
theorem dL_law_373 : decode cL_law 373 = .ok (.invokevirtual 47, 3) := by decide +kernel
theorem dL_law_376 : decode cL_law 376 = .ok (.aload_n 2, 1) := by decide +kernel
theorem dL_law_377 : decode cL_law 377 = .ok (.aload_n 0, 1) := by decide +kernel
theorem dL_law_378 : decode cL_law 378 = .ok (.iload_n 3, 1) := by decide +kernel
theorem dL_law_379 : decode cL_law 379 = .ok (.iconst 1, 1) := by decide +kernel
theorem dL_law_380 : decode cL_law 380 = .ok (.iadd, 1) := by decide +kernel
theorem dL_law_381 : decode cL_law 381 = .ok (.iaload, 1) := by decide +kernel
theorem dL_law_382 : decode cL_law 382 = .ok (.invokevirtual 50, 3) := by decide +kernel
theorem dL_law_385 : decode cL_law 385 = .ok (.if_icmp .eq 647, 3) := by decide +kernel
theorem dL_law_388 : decode cL_law 388 = .ok (.iconst 0, 1) := by decide +kernel
theorem dL_law_389 : decode cL_law 389 = .ok (.ireturn, 1) := by decide +kernel
theorem dL_law_390 : decode cL_law 390 = .ok (.aload_n 1, 1) := by decide +kernel
theorem dL_law_391 : decode cL_law 391 = .ok (.aload_n 0, 1) := by decide +kernel
theorem dL_law_392 : decode cL_law 392 = .ok (.iload_n 3, 1) := by decide +kernel
theorem dL_law_393 : decode cL_law 393 = .ok (.iconst 1, 1) := by decide +kernel
theorem dL_law_394 : decode cL_law 394 = .ok (.iadd, 1) := by decide +kernel
theorem dL_law_395 : decode cL_law 395 = .ok (.iaload, 1) := by decide +kernel
theorem dL_law_396 : decode cL_law 396 = .ok (.aload_n 0, 1) := by decide +kernel
theorem dL_law_397 : decode cL_law 397 = .ok (.iload_n 3, 1) := by decide +kernel
theorem dL_law_398 : decode cL_law 398 = .ok (.iconst 2, 1) := by decide +kernel
theorem dL_law_399 : decode cL_law 399 = .ok (.iadd, 1) := by decide +kernel
theorem dL_law_400 : decode cL_law 400 = .ok (.iaload, 1) := by decide +kernel
theorem dL_law_401 : decode cL_law 401 = .ok (.invokevirtual 51, 3) := by decide +kernel
theorem dL_law_404 : decode cL_law 404 = .ok (.aload_n 2, 1) := by decide +kernel
theorem dL_law_405 : decode cL_law 405 = .ok (.aload_n 0, 1) := by decide +kernel
theorem dL_law_406 : decode cL_law 406 = .ok (.iload_n 3, 1) := by decide +kernel
theorem dL_law_407 : decode cL_law 407 = .ok (.iconst 1, 1) := by decide +kernel
theorem dL_law_408 : decode cL_law 408 = .ok (.iadd, 1) := by decide +kernel
theorem dL_law_409 : decode cL_law 409 = .ok (.iaload, 1) := by decide +kernel
theorem dL_law_410 : decode cL_law 410 = .ok (.aload_n 0, 1) := by decide +kernel
theorem dL_law_411 : decode cL_law 411 = .ok (.iload_n 3, 1) := by decide +kernel
theorem dL_law_412 : decode cL_law 412 = .ok (.iconst 2, 1) := by decide +kernel
theorem dL_law_413 : decode cL_law 413 = .ok (.iadd, 1) := by decide +kernel
theorem dL_law_414 : decode cL_law 414 = .ok (.iaload, 1) := by decide +kernel
theorem dL_law_415 : decode cL_law 415 = .ok (.invokevirtual 54, 3) := by decide +kernel
theorem dL_law_418 : decode cL_law 418 = .ok (.if_icmp .eq 614, 3) := by decide +kernel
theorem dL_law_421 : decode cL_law 421 = .ok (.iconst 0, 1) := by decide +kernel
theorem dL_law_422 : decode cL_law 422 = .ok (.ireturn, 1) := by decide +kernel
theorem dL_law_423 : decode cL_law 423 = .ok (.aload_n 1, 1) := by decide +kernel
theorem dL_law_424 : decode cL_law 424 = .ok (.aload_n 0, 1) := by decide +kernel
theorem dL_law_425 : decode cL_law 425 = .ok (.iload_n 3, 1) := by decide +kernel
theorem dL_law_426 : decode cL_law 426 = .ok (.iconst 1, 1) := by decide +kernel
theorem dL_law_427 : decode cL_law 427 = .ok (.iadd, 1) := by decide +kernel
theorem dL_law_428 : decode cL_law 428 = .ok (.iaload, 1) := by decide +kernel
theorem dL_law_429 : decode cL_law 429 = .ok (.aload_n 0, 1) := by decide +kernel
theorem dL_law_430 : decode cL_law 430 = .ok (.iload_n 3, 1) := by decide +kernel
theorem dL_law_431 : decode cL_law 431 = .ok (.iconst 2, 1) := by decide +kernel
theorem dL_law_432 : decode cL_law 432 = .ok (.iadd, 1) := by decide +kernel
theorem dL_law_433 : decode cL_law 433 = .ok (.iaload, 1) := by decide +kernel
theorem dL_law_434 : decode cL_law 434 = .ok (.invokevirtual 55, 3) := by decide +kernel
theorem dL_law_437 : decode cL_law 437 = .ok (.aload_n 2, 1) := by decide +kernel
theorem dL_law_438 : decode cL_law 438 = .ok (.aload_n 0, 1) := by decide +kernel
theorem dL_law_439 : decode cL_law 439 = .ok (.iload_n 3, 1) := by decide +kernel
theorem dL_law_440 : decode cL_law 440 = .ok (.iconst 1, 1) := by decide +kernel
theorem dL_law_441 : decode cL_law 441 = .ok (.iadd, 1) := by decide +kernel
theorem dL_law_442 : decode cL_law 442 = .ok (.iaload, 1) := by decide +kernel
theorem dL_law_443 : decode cL_law 443 = .ok (.aload_n 0, 1) := by decide +kernel
theorem dL_law_444 : decode cL_law 444 = .ok (.iload_n 3, 1) := by decide +kernel
theorem dL_law_445 : decode cL_law 445 = .ok (.iconst 2, 1) := by decide +kernel
theorem dL_law_446 : decode cL_law 446 = .ok (.iadd, 1) := by decide +kernel
theorem dL_law_447 : decode cL_law 447 = .ok (.iaload, 1) := by decide +kernel
theorem dL_law_448 : decode cL_law 448 = .ok (.invokevirtual 58, 3) := by decide +kernel
theorem dL_law_451 : decode cL_law 451 = .ok (.if_icmp .eq 581, 3) := by decide +kernel
theorem dL_law_454 : decode cL_law 454 = .ok (.iconst 0, 1) := by decide +kernel
theorem dL_law_455 : decode cL_law 455 = .ok (.ireturn, 1) := by decide +kernel
theorem dL_law_456 : decode cL_law 456 = .ok (.aload_n 1, 1) := by decide +kernel
theorem dL_law_457 : decode cL_law 457 = .ok (.aload_n 0, 1) := by decide +kernel
theorem dL_law_458 : decode cL_law 458 = .ok (.iload_n 3, 1) := by decide +kernel
theorem dL_law_459 : decode cL_law 459 = .ok (.iconst 1, 1) := by decide +kernel
theorem dL_law_460 : decode cL_law 460 = .ok (.iadd, 1) := by decide +kernel
theorem dL_law_461 : decode cL_law 461 = .ok (.iaload, 1) := by decide +kernel
theorem dL_law_462 : decode cL_law 462 = .ok (.invokevirtual 59, 3) := by decide +kernel
theorem dL_law_465 : decode cL_law 465 = .ok (.aload_n 2, 1) := by decide +kernel
theorem dL_law_466 : decode cL_law 466 = .ok (.aload_n 0, 1) := by decide +kernel
theorem dL_law_467 : decode cL_law 467 = .ok (.iload_n 3, 1) := by decide +kernel
theorem dL_law_468 : decode cL_law 468 = .ok (.iconst 1, 1) := by decide +kernel
theorem dL_law_469 : decode cL_law 469 = .ok (.iadd, 1) := by decide +kernel
theorem dL_law_470 : decode cL_law 470 = .ok (.iaload, 1) := by decide +kernel
theorem dL_law_471 : decode cL_law 471 = .ok (.invokevirtual 62, 3) := by decide +kernel
theorem dL_law_474 : decode cL_law 474 = .ok (.if_icmp .eq 558, 3) := by decide +kernel
theorem dL_law_477 : decode cL_law 477 = .ok (.iconst 0, 1) := by decide +kernel
theorem dL_law_478 : decode cL_law 478 = .ok (.ireturn, 1) := by decide +kernel
theorem dL_law_479 : decode cL_law 479 = .ok (.aload_n 1, 1) := by decide +kernel
theorem dL_law_480 : decode cL_law 480 = .ok (.aload_n 0, 1) := by decide +kernel
theorem dL_law_481 : decode cL_law 481 = .ok (.iload_n 3, 1) := by decide +kernel
theorem dL_law_482 : decode cL_law 482 = .ok (.iconst 1, 1) := by decide +kernel
theorem dL_law_483 : decode cL_law 483 = .ok (.iadd, 1) := by decide +kernel
theorem dL_law_484 : decode cL_law 484 = .ok (.iaload, 1) := by decide +kernel
theorem dL_law_485 : decode cL_law 485 = .ok (.invokevirtual 63, 3) := by decide +kernel
theorem dL_law_488 : decode cL_law 488 = .ok (.aload_n 2, 1) := by decide +kernel
theorem dL_law_489 : decode cL_law 489 = .ok (.aload_n 0, 1) := by decide +kernel
theorem dL_law_490 : decode cL_law 490 = .ok (.iload_n 3, 1) := by decide +kernel
theorem dL_law_491 : decode cL_law 491 = .ok (.iconst 1, 1) := by decide +kernel
theorem dL_law_492 : decode cL_law 492 = .ok (.iadd, 1) := by decide +kernel
theorem dL_law_493 : decode cL_law 493 = .ok (.iaload, 1) := by decide +kernel
theorem dL_law_494 : decode cL_law 494 = .ok (.invokevirtual 66, 3) := by decide +kernel
theorem dL_law_497 : decode cL_law 497 = .ok (.if_icmp .eq 535, 3) := by decide +kernel
theorem dL_law_500 : decode cL_law 500 = .ok (.iconst 0, 1) := by decide +kernel
theorem dL_law_501 : decode cL_law 501 = .ok (.ireturn, 1) := by decide +kernel
theorem dL_law_502 : decode cL_law 502 = .ok (.aload_n 1, 1) := by decide +kernel
theorem dL_law_503 : decode cL_law 503 = .ok (.aload_n 0, 1) := by decide +kernel
theorem dL_law_504 : decode cL_law 504 = .ok (.iload_n 3, 1) := by decide +kernel
theorem dL_law_505 : decode cL_law 505 = .ok (.iconst 1, 1) := by decide +kernel
theorem dL_law_506 : decode cL_law 506 = .ok (.iadd, 1) := by decide +kernel
theorem dL_law_507 : decode cL_law 507 = .ok (.iaload, 1) := by decide +kernel
theorem dL_law_508 : decode cL_law 508 = .ok (.aload_n 0, 1) := by decide +kernel
theorem dL_law_509 : decode cL_law 509 = .ok (.iload_n 3, 1) := by decide +kernel
theorem dL_law_510 : decode cL_law 510 = .ok (.iconst 2, 1) := by decide +kernel
theorem dL_law_511 : decode cL_law 511 = .ok (.iadd, 1) := by decide +kernel
theorem dL_law_512 : decode cL_law 512 = .ok (.iaload, 1) := by decide +kernel
theorem dL_law_513 : decode cL_law 513 = .ok (.invokevirtual 67, 3) := by decide +kernel
theorem dL_law_516 : decode cL_law 516 = .ok (.aload_n 2, 1) := by decide +kernel
theorem dL_law_517 : decode cL_law 517 = .ok (.aload_n 0, 1) := by decide +kernel
theorem dL_law_518 : decode cL_law 518 = .ok (.iload_n 3, 1) := by decide +kernel
theorem dL_law_519 : decode cL_law 519 = .ok (.iconst 1, 1) := by decide +kernel
theorem dL_law_520 : decode cL_law 520 = .ok (.iadd, 1) := by decide +kernel
theorem dL_law_521 : decode cL_law 521 = .ok (.iaload, 1) := by decide +kernel
theorem dL_law_522 : decode cL_law 522 = .ok (.aload_n 0, 1) := by decide +kernel
theorem dL_law_523 : decode cL_law 523 = .ok (.iload_n 3, 1) := by decide +kernel
theorem dL_law_524 : decode cL_law 524 = .ok (.iconst 2, 1) := by decide +kernel
theorem dL_law_525 : decode cL_law 525 = .ok (.iadd, 1) := by decide +kernel
theorem dL_law_526 : decode cL_law 526 = .ok (.iaload, 1) := by decide +kernel
theorem dL_law_527 : decode cL_law 527 = .ok (.invokevirtual 70, 3) := by decide +kernel
theorem dL_law_530 : decode cL_law 530 = .ok (.if_icmp .eq 502, 3) := by decide +kernel
theorem dL_law_533 : decode cL_law 533 = .ok (.iconst 0, 1) := by decide +kernel
theorem dL_law_534 : decode cL_law 534 = .ok (.ireturn, 1) := by decide +kernel
theorem dL_law_535 : decode cL_law 535 = .ok (.aload_n 1, 1) := by decide +kernel
theorem dL_law_536 : decode cL_law 536 = .ok (.aload_n 0, 1) := by decide +kernel
theorem dL_law_537 : decode cL_law 537 = .ok (.iload_n 3, 1) := by decide +kernel
theorem dL_law_538 : decode cL_law 538 = .ok (.iconst 1, 1) := by decide +kernel
theorem dL_law_539 : decode cL_law 539 = .ok (.iadd, 1) := by decide +kernel
theorem dL_law_540 : decode cL_law 540 = .ok (.iaload, 1) := by decide +kernel
theorem dL_law_541 : decode cL_law 541 = .ok (.aload_n 0, 1) := by decide +kernel
theorem dL_law_542 : decode cL_law 542 = .ok (.iload_n 3, 1) := by decide +kernel
theorem dL_law_543 : decode cL_law 543 = .ok (.iconst 2, 1) := by decide +kernel
theorem dL_law_544 : decode cL_law 544 = .ok (.iadd, 1) := by decide +kernel
theorem dL_law_545 : decode cL_law 545 = .ok (.iaload, 1) := by decide +kernel
theorem dL_law_546 : decode cL_law 546 = .ok (.invokevirtual 71, 3) := by decide +kernel
theorem dL_law_549 : decode cL_law 549 = .ok (.aload_n 2, 1) := by decide +kernel
theorem dL_law_550 : decode cL_law 550 = .ok (.aload_n 0, 1) := by decide +kernel
theorem dL_law_551 : decode cL_law 551 = .ok (.iload_n 3, 1) := by decide +kernel
theorem dL_law_552 : decode cL_law 552 = .ok (.iconst 1, 1) := by decide +kernel
theorem dL_law_553 : decode cL_law 553 = .ok (.iadd, 1) := by decide +kernel
theorem dL_law_554 : decode cL_law 554 = .ok (.iaload, 1) := by decide +kernel
theorem dL_law_555 : decode cL_law 555 = .ok (.aload_n 0, 1) := by decide +kernel
theorem dL_law_556 : decode cL_law 556 = .ok (.iload_n 3, 1) := by decide +kernel
theorem dL_law_557 : decode cL_law 557 = .ok (.iconst 2, 1) := by decide +kernel
theorem dL_law_558 : decode cL_law 558 = .ok (.iadd, 1) := by decide +kernel
theorem dL_law_559 : decode cL_law 559 = .ok (.iaload, 1) := by decide +kernel
theorem dL_law_560 : decode cL_law 560 = .ok (.invokevirtual 74, 3) := by decide +kernel
theorem dL_law_563 : decode cL_law 563 = .ok (.if_icmp .eq 469, 3) := by decide +kernel
theorem dL_law_566 : decode cL_law 566 = .ok (.iconst 0, 1) := by decide +kernel
theorem dL_law_567 : decode cL_law 567 = .ok (.ireturn, 1) := by decide +kernel
theorem dL_law_568 : decode cL_law 568 = .ok (.aload_n 1, 1) := by decide +kernel
theorem dL_law_569 : decode cL_law 569 = .ok (.aload_n 0, 1) := by decide +kernel
theorem dL_law_570 : decode cL_law 570 = .ok (.iload_n 3, 1) := by decide +kernel
theorem dL_law_571 : decode cL_law 571 = .ok (.iconst 1, 1) := by decide +kernel
theorem dL_law_572 : decode cL_law 572 = .ok (.iadd, 1) := by decide +kernel
theorem dL_law_573 : decode cL_law 573 = .ok (.iaload, 1) := by decide +kernel
theorem dL_law_574 : decode cL_law 574 = .ok (.aload_n 0, 1) := by decide +kernel
theorem dL_law_575 : decode cL_law 575 = .ok (.iload_n 3, 1) := by decide +kernel
theorem dL_law_576 : decode cL_law 576 = .ok (.iconst 2, 1) := by decide +kernel
theorem dL_law_577 : decode cL_law 577 = .ok (.iadd, 1) := by decide +kernel
theorem dL_law_578 : decode cL_law 578 = .ok (.iaload, 1) := by decide +kernel
theorem dL_law_579 : decode cL_law 579 = .ok (.invokevirtual 75, 3) := by decide +kernel
theorem dL_law_582 : decode cL_law 582 = .ok (.aload_n 2, 1) := by decide +kernel
theorem dL_law_583 : decode cL_law 583 = .ok (.aload_n 0, 1) := by decide +kernel
theorem dL_law_584 : decode cL_law 584 = .ok (.iload_n 3, 1) := by decide +kernel
theorem dL_law_585 : decode cL_law 585 = .ok (.iconst 1, 1) := by decide +kernel
theorem dL_law_586 : decode cL_law 586 = .ok (.iadd, 1) := by decide +kernel
theorem dL_law_587 : decode cL_law 587 = .ok (.iaload, 1) := by decide +kernel
theorem dL_law_588 : decode cL_law 588 = .ok (.aload_n 0, 1) := by decide +kernel
theorem dL_law_589 : decode cL_law 589 = .ok (.iload_n 3, 1) := by decide +kernel
theorem dL_law_590 : decode cL_law 590 = .ok (.iconst 2, 1) := by decide +kernel
theorem dL_law_591 : decode cL_law 591 = .ok (.iadd, 1) := by decide +kernel
theorem dL_law_592 : decode cL_law 592 = .ok (.iaload, 1) := by decide +kernel
theorem dL_law_593 : decode cL_law 593 = .ok (.invokevirtual 78, 3) := by decide +kernel
theorem dL_law_596 : decode cL_law 596 = .ok (.if_icmp .eq 436, 3) := by decide +kernel
theorem dL_law_599 : decode cL_law 599 = .ok (.iconst 0, 1) := by decide +kernel
theorem dL_law_600 : decode cL_law 600 = .ok (.ireturn, 1) := by decide +kernel
theorem dL_law_601 : decode cL_law 601 = .ok (.aload_n 1, 1) := by decide +kernel
theorem dL_law_602 : decode cL_law 602 = .ok (.aload_n 0, 1) := by decide +kernel
theorem dL_law_603 : decode cL_law 603 = .ok (.iload_n 3, 1) := by decide +kernel
theorem dL_law_604 : decode cL_law 604 = .ok (.iconst 1, 1) := by decide +kernel
theorem dL_law_605 : decode cL_law 605 = .ok (.iadd, 1) := by decide +kernel
theorem dL_law_606 : decode cL_law 606 = .ok (.iaload, 1) := by decide +kernel
theorem dL_law_607 : decode cL_law 607 = .ok (.invokevirtual 79, 3) := by decide +kernel
theorem dL_law_610 : decode cL_law 610 = .ok (.aload_n 2, 1) := by decide +kernel
theorem dL_law_611 : decode cL_law 611 = .ok (.aload_n 0, 1) := by decide +kernel
theorem dL_law_612 : decode cL_law 612 = .ok (.iload_n 3, 1) := by decide +kernel
theorem dL_law_613 : decode cL_law 613 = .ok (.iconst 1, 1) := by decide +kernel
theorem dL_law_614 : decode cL_law 614 = .ok (.iadd, 1) := by decide +kernel
theorem dL_law_615 : decode cL_law 615 = .ok (.iaload, 1) := by decide +kernel
theorem dL_law_616 : decode cL_law 616 = .ok (.invokevirtual 82, 3) := by decide +kernel
theorem dL_law_619 : decode cL_law 619 = .ok (.if_icmp .eq 413, 3) := by decide +kernel
theorem dL_law_622 : decode cL_law 622 = .ok (.iconst 0, 1) := by decide +kernel
theorem dL_law_623 : decode cL_law 623 = .ok (.ireturn, 1) := by decide +kernel
theorem dL_law_624 : decode cL_law 624 = .ok (.aload_n 1, 1) := by decide +kernel
theorem dL_law_625 : decode cL_law 625 = .ok (.invokevirtual 83, 3) := by decide +kernel
theorem dL_law_628 : decode cL_law 628 = .ok (.aload_n 2, 1) := by decide +kernel
theorem dL_law_629 : decode cL_law 629 = .ok (.invokevirtual 86, 3) := by decide +kernel
theorem dL_law_632 : decode cL_law 632 = .ok (.if_icmp .eq 400, 3) := by decide +kernel
theorem dL_law_635 : decode cL_law 635 = .ok (.iconst 0, 1) := by decide +kernel
theorem dL_law_636 : decode cL_law 636 = .ok (.ireturn, 1) := by decide +kernel
theorem dL_law_637 : decode cL_law 637 = .ok (.aload_n 1, 1) := by decide +kernel
theorem dL_law_638 : decode cL_law 638 = .ok (.aload_n 0, 1) := by decide +kernel
theorem dL_law_639 : decode cL_law 639 = .ok (.iload_n 3, 1) := by decide +kernel
theorem dL_law_640 : decode cL_law 640 = .ok (.iconst 1, 1) := by decide +kernel
theorem dL_law_641 : decode cL_law 641 = .ok (.iadd, 1) := by decide +kernel
theorem dL_law_642 : decode cL_law 642 = .ok (.iaload, 1) := by decide +kernel
theorem dL_law_643 : decode cL_law 643 = .ok (.invokevirtual 87, 3) := by decide +kernel
theorem dL_law_646 : decode cL_law 646 = .ok (.aload_n 2, 1) := by decide +kernel
theorem dL_law_647 : decode cL_law 647 = .ok (.aload_n 0, 1) := by decide +kernel
theorem dL_law_648 : decode cL_law 648 = .ok (.iload_n 3, 1) := by decide +kernel
theorem dL_law_649 : decode cL_law 649 = .ok (.iconst 1, 1) := by decide +kernel
theorem dL_law_650 : decode cL_law 650 = .ok (.iadd, 1) := by decide +kernel
theorem dL_law_651 : decode cL_law 651 = .ok (.iaload, 1) := by decide +kernel
theorem dL_law_652 : decode cL_law 652 = .ok (.invokevirtual 90, 3) := by decide +kernel
theorem dL_law_655 : decode cL_law 655 = .ok (.if_icmp .eq 377, 3) := by decide +kernel
theorem dL_law_658 : decode cL_law 658 = .ok (.iconst 0, 1) := by decide +kernel
theorem dL_law_659 : decode cL_law 659 = .ok (.ireturn, 1) := by decide +kernel
theorem dL_law_660 : decode cL_law 660 = .ok (.aload_n 1, 1) := by decide +kernel
theorem dL_law_661 : decode cL_law 661 = .ok (.aload_n 0, 1) := by decide +kernel
theorem dL_law_662 : decode cL_law 662 = .ok (.iload_n 3, 1) := by decide +kernel
theorem dL_law_663 : decode cL_law 663 = .ok (.iconst 1, 1) := by decide +kernel
theorem dL_law_664 : decode cL_law 664 = .ok (.iadd, 1) := by decide +kernel
theorem dL_law_665 : decode cL_law 665 = .ok (.iaload, 1) := by decide +kernel
theorem dL_law_666 : decode cL_law 666 = .ok (.aload_n 0, 1) := by decide +kernel
theorem dL_law_667 : decode cL_law 667 = .ok (.iload_n 3, 1) := by decide +kernel
theorem dL_law_668 : decode cL_law 668 = .ok (.iconst 2, 1) := by decide +kernel
theorem dL_law_669 : decode cL_law 669 = .ok (.iadd, 1) := by decide +kernel
theorem dL_law_670 : decode cL_law 670 = .ok (.iaload, 1) := by decide +kernel
theorem dL_law_671 : decode cL_law 671 = .ok (.invokevirtual 91, 3) := by decide +kernel
theorem dL_law_674 : decode cL_law 674 = .ok (.aload_n 2, 1) := by decide +kernel
theorem dL_law_675 : decode cL_law 675 = .ok (.aload_n 0, 1) := by decide +kernel
theorem dL_law_676 : decode cL_law 676 = .ok (.iload_n 3, 1) := by decide +kernel
theorem dL_law_677 : decode cL_law 677 = .ok (.iconst 1, 1) := by decide +kernel
theorem dL_law_678 : decode cL_law 678 = .ok (.iadd, 1) := by decide +kernel
theorem dL_law_679 : decode cL_law 679 = .ok (.iaload, 1) := by decide +kernel
theorem dL_law_680 : decode cL_law 680 = .ok (.aload_n 0, 1) := by decide +kernel
theorem dL_law_681 : decode cL_law 681 = .ok (.iload_n 3, 1) := by decide +kernel
theorem dL_law_682 : decode cL_law 682 = .ok (.iconst 2, 1) := by decide +kernel
theorem dL_law_683 : decode cL_law 683 = .ok (.iadd, 1) := by decide +kernel
theorem dL_law_684 : decode cL_law 684 = .ok (.iaload, 1) := by decide +kernel
theorem dL_law_685 : decode cL_law 685 = .ok (.invokevirtual 94, 3) := by decide +kernel
theorem dL_law_688 : decode cL_law 688 = .ok (.if_icmp .eq 344, 3) := by decide +kernel
theorem dL_law_691 : decode cL_law 691 = .ok (.iconst 0, 1) := by decide +kernel
theorem dL_law_692 : decode cL_law 692 = .ok (.ireturn, 1) := by decide +kernel
theorem dL_law_693 : decode cL_law 693 = .ok (.aload_n 1, 1) := by decide +kernel
theorem dL_law_694 : decode cL_law 694 = .ok (.aload_n 0, 1) := by decide +kernel
theorem dL_law_695 : decode cL_law 695 = .ok (.iload_n 3, 1) := by decide +kernel
theorem dL_law_696 : decode cL_law 696 = .ok (.iconst 1, 1) := by decide +kernel
theorem dL_law_697 : decode cL_law 697 = .ok (.iadd, 1) := by decide +kernel
theorem dL_law_698 : decode cL_law 698 = .ok (.iaload, 1) := by decide +kernel
theorem dL_law_699 : decode cL_law 699 = .ok (.aload_n 0, 1) := by decide +kernel
theorem dL_law_700 : decode cL_law 700 = .ok (.iload_n 3, 1) := by decide +kernel
theorem dL_law_701 : decode cL_law 701 = .ok (.iconst 2, 1) := by decide +kernel
theorem dL_law_702 : decode cL_law 702 = .ok (.iadd, 1) := by decide +kernel
theorem dL_law_703 : decode cL_law 703 = .ok (.iaload, 1) := by decide +kernel
theorem dL_law_704 : decode cL_law 704 = .ok (.aload_n 0, 1) := by decide +kernel
theorem dL_law_705 : decode cL_law 705 = .ok (.iload_n 3, 1) := by decide +kernel
theorem dL_law_706 : decode cL_law 706 = .ok (.iconst 3, 1) := by decide +kernel
theorem dL_law_707 : decode cL_law 707 = .ok (.iadd, 1) := by decide +kernel
theorem dL_law_708 : decode cL_law 708 = .ok (.iaload, 1) := by decide +kernel
theorem dL_law_709 : decode cL_law 709 = .ok (.aload_n 0, 1) := by decide +kernel
theorem dL_law_710 : decode cL_law 710 = .ok (.iload_n 3, 1) := by decide +kernel
theorem dL_law_711 : decode cL_law 711 = .ok (.iconst 4, 1) := by decide +kernel
theorem dL_law_712 : decode cL_law 712 = .ok (.iadd, 1) := by decide +kernel
theorem dL_law_713 : decode cL_law 713 = .ok (.iaload, 1) := by decide +kernel
theorem dL_law_714 : decode cL_law 714 = .ok (.invokevirtual 95, 3) := by decide +kernel
theorem dL_law_717 : decode cL_law 717 = .ok (.aload_n 2, 1) := by decide +kernel
theorem dL_law_718 : decode cL_law 718 = .ok (.aload_n 0, 1) := by decide +kernel
theorem dL_law_719 : decode cL_law 719 = .ok (.iload_n 3, 1) := by decide +kernel
theorem dL_law_720 : decode cL_law 720 = .ok (.iconst 1, 1) := by decide +kernel
theorem dL_law_721 : decode cL_law 721 = .ok (.iadd, 1) := by decide +kernel
theorem dL_law_722 : decode cL_law 722 = .ok (.iaload, 1) := by decide +kernel
theorem dL_law_723 : decode cL_law 723 = .ok (.aload_n 0, 1) := by decide +kernel
theorem dL_law_724 : decode cL_law 724 = .ok (.iload_n 3, 1) := by decide +kernel
theorem dL_law_725 : decode cL_law 725 = .ok (.iconst 2, 1) := by decide +kernel
theorem dL_law_726 : decode cL_law 726 = .ok (.iadd, 1) := by decide +kernel
theorem dL_law_727 : decode cL_law 727 = .ok (.iaload, 1) := by decide +kernel
theorem dL_law_728 : decode cL_law 728 = .ok (.aload_n 0, 1) := by decide +kernel
theorem dL_law_729 : decode cL_law 729 = .ok (.iload_n 3, 1) := by decide +kernel
theorem dL_law_730 : decode cL_law 730 = .ok (.iconst 3, 1) := by decide +kernel
theorem dL_law_731 : decode cL_law 731 = .ok (.iadd, 1) := by decide +kernel
theorem dL_law_732 : decode cL_law 732 = .ok (.iaload, 1) := by decide +kernel
theorem dL_law_733 : decode cL_law 733 = .ok (.aload_n 0, 1) := by decide +kernel
theorem dL_law_734 : decode cL_law 734 = .ok (.iload_n 3, 1) := by decide +kernel
theorem dL_law_735 : decode cL_law 735 = .ok (.iconst 4, 1) := by decide +kernel
theorem dL_law_736 : decode cL_law 736 = .ok (.iadd, 1) := by decide +kernel
theorem dL_law_737 : decode cL_law 737 = .ok (.iaload, 1) := by decide +kernel
theorem dL_law_738 : decode cL_law 738 = .ok (.invokevirtual 99, 3) := by decide +kernel
theorem dL_law_741 : decode cL_law 741 = .ok (.if_icmp .eq 291, 3) := by decide +kernel
theorem dL_law_744 : decode cL_law 744 = .ok (.iconst 0, 1) := by decide +kernel
theorem dL_law_745 : decode cL_law 745 = .ok (.ireturn, 1) := by decide +kernel
theorem dL_law_746 : decode cL_law 746 = .ok (.aload_n 1, 1) := by decide +kernel
theorem dL_law_747 : decode cL_law 747 = .ok (.aload_n 0, 1) := by decide +kernel
theorem dL_law_748 : decode cL_law 748 = .ok (.iload_n 3, 1) := by decide +kernel
theorem dL_law_749 : decode cL_law 749 = .ok (.iconst 1, 1) := by decide +kernel
theorem dL_law_750 : decode cL_law 750 = .ok (.iadd, 1) := by decide +kernel
theorem dL_law_751 : decode cL_law 751 = .ok (.iaload, 1) := by decide +kernel
theorem dL_law_752 : decode cL_law 752 = .ok (.aload_n 0, 1) := by decide +kernel
theorem dL_law_753 : decode cL_law 753 = .ok (.iload_n 3, 1) := by decide +kernel
theorem dL_law_754 : decode cL_law 754 = .ok (.iconst 2, 1) := by decide +kernel
theorem dL_law_755 : decode cL_law 755 = .ok (.iadd, 1) := by decide +kernel
theorem dL_law_756 : decode cL_law 756 = .ok (.iaload, 1) := by decide +kernel
theorem dL_law_757 : decode cL_law 757 = .ok (.invokevirtual 100, 3) := by decide +kernel
theorem dL_law_760 : decode cL_law 760 = .ok (.aload_n 2, 1) := by decide +kernel
theorem dL_law_761 : decode cL_law 761 = .ok (.aload_n 0, 1) := by decide +kernel
theorem dL_law_762 : decode cL_law 762 = .ok (.iload_n 3, 1) := by decide +kernel
theorem dL_law_763 : decode cL_law 763 = .ok (.iconst 1, 1) := by decide +kernel
theorem dL_law_764 : decode cL_law 764 = .ok (.iadd, 1) := by decide +kernel
theorem dL_law_765 : decode cL_law 765 = .ok (.iaload, 1) := by decide +kernel
theorem dL_law_766 : decode cL_law 766 = .ok (.aload_n 0, 1) := by decide +kernel
theorem dL_law_767 : decode cL_law 767 = .ok (.iload_n 3, 1) := by decide +kernel
theorem dL_law_768 : decode cL_law 768 = .ok (.iconst 2, 1) := by decide +kernel
theorem dL_law_769 : decode cL_law 769 = .ok (.iadd, 1) := by decide +kernel
theorem dL_law_770 : decode cL_law 770 = .ok (.iaload, 1) := by decide +kernel
theorem dL_law_771 : decode cL_law 771 = .ok (.invokevirtual 103, 3) := by decide +kernel
theorem dL_law_774 : decode cL_law 774 = .ok (.if_icmp .eq 258, 3) := by decide +kernel
theorem dL_law_777 : decode cL_law 777 = .ok (.iconst 0, 1) := by decide +kernel
theorem dL_law_778 : decode cL_law 778 = .ok (.ireturn, 1) := by decide +kernel
theorem dL_law_779 : decode cL_law 779 = .ok (.aload_n 1, 1) := by decide +kernel
theorem dL_law_780 : decode cL_law 780 = .ok (.aload_n 0, 1) := by decide +kernel
theorem dL_law_781 : decode cL_law 781 = .ok (.iload_n 3, 1) := by decide +kernel
theorem dL_law_782 : decode cL_law 782 = .ok (.iconst 1, 1) := by decide +kernel
theorem dL_law_783 : decode cL_law 783 = .ok (.iadd, 1) := by decide +kernel
theorem dL_law_784 : decode cL_law 784 = .ok (.iaload, 1) := by decide +kernel
theorem dL_law_785 : decode cL_law 785 = .ok (.aload_n 0, 1) := by decide +kernel
theorem dL_law_786 : decode cL_law 786 = .ok (.iload_n 3, 1) := by decide +kernel
theorem dL_law_787 : decode cL_law 787 = .ok (.iconst 2, 1) := by decide +kernel
theorem dL_law_788 : decode cL_law 788 = .ok (.iadd, 1) := by decide +kernel
theorem dL_law_789 : decode cL_law 789 = .ok (.iaload, 1) := by decide +kernel
theorem dL_law_790 : decode cL_law 790 = .ok (.invokevirtual 104, 3) := by decide +kernel
theorem dL_law_793 : decode cL_law 793 = .ok (.aload_n 2, 1) := by decide +kernel
theorem dL_law_794 : decode cL_law 794 = .ok (.aload_n 0, 1) := by decide +kernel
theorem dL_law_795 : decode cL_law 795 = .ok (.iload_n 3, 1) := by decide +kernel
theorem dL_law_796 : decode cL_law 796 = .ok (.iconst 1, 1) := by decide +kernel
theorem dL_law_797 : decode cL_law 797 = .ok (.iadd, 1) := by decide +kernel
theorem dL_law_798 : decode cL_law 798 = .ok (.iaload, 1) := by decide +kernel
theorem dL_law_799 : decode cL_law 799 = .ok (.aload_n 0, 1) := by decide +kernel
theorem dL_law_800 : decode cL_law 800 = .ok (.iload_n 3, 1) := by decide +kernel
theorem dL_law_801 : decode cL_law 801 = .ok (.iconst 2, 1) := by decide +kernel
theorem dL_law_802 : decode cL_law 802 = .ok (.iadd, 1) := by decide +kernel
theorem dL_law_803 : decode cL_law 803 = .ok (.iaload, 1) := by decide +kernel
theorem dL_law_804 : decode cL_law 804 = .ok (.invokevirtual 107, 3) := by decide +kernel
theorem dL_law_807 : decode cL_law 807 = .ok (.if_icmp .eq 225, 3) := by decide +kernel
theorem dL_law_810 : decode cL_law 810 = .ok (.iconst 0, 1) := by decide +kernel
theorem dL_law_811 : decode cL_law 811 = .ok (.ireturn, 1) := by decide +kernel
theorem dL_law_812 : decode cL_law 812 = .ok (.aload_n 1, 1) := by decide +kernel
theorem dL_law_813 : decode cL_law 813 = .ok (.aload_n 0, 1) := by decide +kernel
theorem dL_law_814 : decode cL_law 814 = .ok (.iload_n 3, 1) := by decide +kernel
theorem dL_law_815 : decode cL_law 815 = .ok (.iconst 1, 1) := by decide +kernel
theorem dL_law_816 : decode cL_law 816 = .ok (.iadd, 1) := by decide +kernel
theorem dL_law_817 : decode cL_law 817 = .ok (.iaload, 1) := by decide +kernel
theorem dL_law_818 : decode cL_law 818 = .ok (.aload_n 0, 1) := by decide +kernel
theorem dL_law_819 : decode cL_law 819 = .ok (.iload_n 3, 1) := by decide +kernel
theorem dL_law_820 : decode cL_law 820 = .ok (.iconst 2, 1) := by decide +kernel
theorem dL_law_821 : decode cL_law 821 = .ok (.iadd, 1) := by decide +kernel
theorem dL_law_822 : decode cL_law 822 = .ok (.iaload, 1) := by decide +kernel
theorem dL_law_823 : decode cL_law 823 = .ok (.invokevirtual 108, 3) := by decide +kernel
theorem dL_law_826 : decode cL_law 826 = .ok (.aload_n 2, 1) := by decide +kernel
theorem dL_law_827 : decode cL_law 827 = .ok (.aload_n 0, 1) := by decide +kernel
theorem dL_law_828 : decode cL_law 828 = .ok (.iload_n 3, 1) := by decide +kernel
theorem dL_law_829 : decode cL_law 829 = .ok (.iconst 1, 1) := by decide +kernel
theorem dL_law_830 : decode cL_law 830 = .ok (.iadd, 1) := by decide +kernel
theorem dL_law_831 : decode cL_law 831 = .ok (.iaload, 1) := by decide +kernel
theorem dL_law_832 : decode cL_law 832 = .ok (.aload_n 0, 1) := by decide +kernel
theorem dL_law_833 : decode cL_law 833 = .ok (.iload_n 3, 1) := by decide +kernel
theorem dL_law_834 : decode cL_law 834 = .ok (.iconst 2, 1) := by decide +kernel
theorem dL_law_835 : decode cL_law 835 = .ok (.iadd, 1) := by decide +kernel
theorem dL_law_836 : decode cL_law 836 = .ok (.iaload, 1) := by decide +kernel
theorem dL_law_837 : decode cL_law 837 = .ok (.invokevirtual 111, 3) := by decide +kernel
theorem dL_law_840 : decode cL_law 840 = .ok (.if_icmp .eq 192, 3) := by decide +kernel
theorem dL_law_843 : decode cL_law 843 = .ok (.iconst 0, 1) := by decide +kernel
theorem dL_law_844 : decode cL_law 844 = .ok (.ireturn, 1) := by decide +kernel
theorem dL_law_845 : decode cL_law 845 = .ok (.aload_n 1, 1) := by decide +kernel
theorem dL_law_846 : decode cL_law 846 = .ok (.invokevirtual 112, 3) := by decide +kernel
theorem dL_law_849 : decode cL_law 849 = .ok (.aload_n 2, 1) := by decide +kernel
theorem dL_law_850 : decode cL_law 850 = .ok (.invokevirtual 115, 3) := by decide +kernel
theorem dL_law_853 : decode cL_law 853 = .ok (.if_icmp .eq 179, 3) := by decide +kernel
theorem dL_law_856 : decode cL_law 856 = .ok (.iconst 0, 1) := by decide +kernel
theorem dL_law_857 : decode cL_law 857 = .ok (.ireturn, 1) := by decide +kernel
theorem dL_law_858 : decode cL_law 858 = .ok (.aload_n 1, 1) := by decide +kernel
theorem dL_law_859 : decode cL_law 859 = .ok (.aload_n 0, 1) := by decide +kernel
theorem dL_law_860 : decode cL_law 860 = .ok (.iload_n 3, 1) := by decide +kernel
theorem dL_law_861 : decode cL_law 861 = .ok (.iconst 1, 1) := by decide +kernel
theorem dL_law_862 : decode cL_law 862 = .ok (.iadd, 1) := by decide +kernel
theorem dL_law_863 : decode cL_law 863 = .ok (.iaload, 1) := by decide +kernel
theorem dL_law_864 : decode cL_law 864 = .ok (.invokevirtual 116, 3) := by decide +kernel
theorem dL_law_867 : decode cL_law 867 = .ok (.aload_n 2, 1) := by decide +kernel
theorem dL_law_868 : decode cL_law 868 = .ok (.aload_n 0, 1) := by decide +kernel
theorem dL_law_869 : decode cL_law 869 = .ok (.iload_n 3, 1) := by decide +kernel
theorem dL_law_870 : decode cL_law 870 = .ok (.iconst 1, 1) := by decide +kernel
theorem dL_law_871 : decode cL_law 871 = .ok (.iadd, 1) := by decide +kernel
theorem dL_law_872 : decode cL_law 872 = .ok (.iaload, 1) := by decide +kernel
theorem dL_law_873 : decode cL_law 873 = .ok (.invokevirtual 119, 3) := by decide +kernel
theorem dL_law_876 : decode cL_law 876 = .ok (.if_icmp .eq 156, 3) := by decide +kernel
theorem dL_law_879 : decode cL_law 879 = .ok (.iconst 0, 1) := by decide +kernel
theorem dL_law_880 : decode cL_law 880 = .ok (.ireturn, 1) := by decide +kernel
theorem dL_law_881 : decode cL_law 881 = .ok (.aload_n 1, 1) := by decide +kernel
theorem dL_law_882 : decode cL_law 882 = .ok (.aload_n 0, 1) := by decide +kernel
theorem dL_law_883 : decode cL_law 883 = .ok (.iload_n 3, 1) := by decide +kernel
theorem dL_law_884 : decode cL_law 884 = .ok (.iconst 1, 1) := by decide +kernel
theorem dL_law_885 : decode cL_law 885 = .ok (.iadd, 1) := by decide +kernel
theorem dL_law_886 : decode cL_law 886 = .ok (.iaload, 1) := by decide +kernel
theorem dL_law_887 : decode cL_law 887 = .ok (.invokevirtual 120, 3) := by decide +kernel
theorem dL_law_890 : decode cL_law 890 = .ok (.aload_n 2, 1) := by decide +kernel
theorem dL_law_891 : decode cL_law 891 = .ok (.aload_n 0, 1) := by decide +kernel
theorem dL_law_892 : decode cL_law 892 = .ok (.iload_n 3, 1) := by decide +kernel
theorem dL_law_893 : decode cL_law 893 = .ok (.iconst 1, 1) := by decide +kernel
theorem dL_law_894 : decode cL_law 894 = .ok (.iadd, 1) := by decide +kernel
theorem dL_law_895 : decode cL_law 895 = .ok (.iaload, 1) := by decide +kernel
theorem dL_law_896 : decode cL_law 896 = .ok (.invokevirtual 123, 3) := by decide +kernel
theorem dL_law_899 : decode cL_law 899 = .ok (.if_icmp .eq 133, 3) := by decide +kernel
theorem dL_law_902 : decode cL_law 902 = .ok (.iconst 0, 1) := by decide +kernel
theorem dL_law_903 : decode cL_law 903 = .ok (.ireturn, 1) := by decide +kernel
theorem dL_law_904 : decode cL_law 904 = .ok (.aload_n 1, 1) := by decide +kernel
theorem dL_law_905 : decode cL_law 905 = .ok (.aload_n 0, 1) := by decide +kernel
theorem dL_law_906 : decode cL_law 906 = .ok (.iload_n 3, 1) := by decide +kernel
theorem dL_law_907 : decode cL_law 907 = .ok (.iconst 1, 1) := by decide +kernel
theorem dL_law_908 : decode cL_law 908 = .ok (.iadd, 1) := by decide +kernel
theorem dL_law_909 : decode cL_law 909 = .ok (.iaload, 1) := by decide +kernel
theorem dL_law_910 : decode cL_law 910 = .ok (.aload_n 0, 1) := by decide +kernel
theorem dL_law_911 : decode cL_law 911 = .ok (.iload_n 3, 1) := by decide +kernel
theorem dL_law_912 : decode cL_law 912 = .ok (.iconst 2, 1) := by decide +kernel
theorem dL_law_913 : decode cL_law 913 = .ok (.iadd, 1) := by decide +kernel
theorem dL_law_914 : decode cL_law 914 = .ok (.iaload, 1) := by decide +kernel
theorem dL_law_915 : decode cL_law 915 = .ok (.invokevirtual 124, 3) := by decide +kernel
theorem dL_law_918 : decode cL_law 918 = .ok (.aload_n 2, 1) := by decide +kernel
theorem dL_law_919 : decode cL_law 919 = .ok (.aload_n 0, 1) := by decide +kernel
theorem dL_law_920 : decode cL_law 920 = .ok (.iload_n 3, 1) := by decide +kernel
theorem dL_law_921 : decode cL_law 921 = .ok (.iconst 1, 1) := by decide +kernel
theorem dL_law_922 : decode cL_law 922 = .ok (.iadd, 1) := by decide +kernel
theorem dL_law_923 : decode cL_law 923 = .ok (.iaload, 1) := by decide +kernel
theorem dL_law_924 : decode cL_law 924 = .ok (.aload_n 0, 1) := by decide +kernel
theorem dL_law_925 : decode cL_law 925 = .ok (.iload_n 3, 1) := by decide +kernel
theorem dL_law_926 : decode cL_law 926 = .ok (.iconst 2, 1) := by decide +kernel
theorem dL_law_927 : decode cL_law 927 = .ok (.iadd, 1) := by decide +kernel
theorem dL_law_928 : decode cL_law 928 = .ok (.iaload, 1) := by decide +kernel
theorem dL_law_929 : decode cL_law 929 = .ok (.invokevirtual 127, 3) := by decide +kernel
theorem dL_law_932 : decode cL_law 932 = .ok (.if_icmp .eq 100, 3) := by decide +kernel
theorem dL_law_935 : decode cL_law 935 = .ok (.iconst 0, 1) := by decide +kernel
theorem dL_law_936 : decode cL_law 936 = .ok (.ireturn, 1) := by decide +kernel
theorem dL_law_937 : decode cL_law 937 = .ok (.aload_n 1, 1) := by decide +kernel
theorem dL_law_938 : decode cL_law 938 = .ok (.invokevirtual 128, 3) := by decide +kernel
theorem dL_law_941 : decode cL_law 941 = .ok (.aload_n 2, 1) := by decide +kernel
theorem dL_law_942 : decode cL_law 942 = .ok (.invokevirtual 131, 3) := by decide +kernel
theorem dL_law_945 : decode cL_law 945 = .ok (.if_icmp .eq 87, 3) := by decide +kernel
theorem dL_law_948 : decode cL_law 948 = .ok (.iconst 0, 1) := by decide +kernel
theorem dL_law_949 : decode cL_law 949 = .ok (.ireturn, 1) := by decide +kernel
theorem dL_law_950 : decode cL_law 950 = .ok (.aload_n 1, 1) := by decide +kernel
theorem dL_law_951 : decode cL_law 951 = .ok (.invokevirtual 132, 3) := by decide +kernel
theorem dL_law_954 : decode cL_law 954 = .ok (.aload_n 2, 1) := by decide +kernel
theorem dL_law_955 : decode cL_law 955 = .ok (.invokevirtual 135, 3) := by decide +kernel
theorem dL_law_958 : decode cL_law 958 = .ok (.if_icmp .eq 74, 3) := by decide +kernel
theorem dL_law_961 : decode cL_law 961 = .ok (.iconst 0, 1) := by decide +kernel
theorem dL_law_962 : decode cL_law 962 = .ok (.ireturn, 1) := by decide +kernel
theorem dL_law_963 : decode cL_law 963 = .ok (.aload_n 1, 1) := by decide +kernel
theorem dL_law_964 : decode cL_law 964 = .ok (.aload_n 0, 1) := by decide +kernel
theorem dL_law_965 : decode cL_law 965 = .ok (.iload_n 3, 1) := by decide +kernel
theorem dL_law_966 : decode cL_law 966 = .ok (.iconst 1, 1) := by decide +kernel
theorem dL_law_967 : decode cL_law 967 = .ok (.iadd, 1) := by decide +kernel
theorem dL_law_968 : decode cL_law 968 = .ok (.iaload, 1) := by decide +kernel
theorem dL_law_969 : decode cL_law 969 = .ok (.invokevirtual 136, 3) := by decide +kernel
theorem dL_law_972 : decode cL_law 972 = .ok (.aload_n 2, 1) := by decide +kernel
theorem dL_law_973 : decode cL_law 973 = .ok (.aload_n 0, 1) := by decide +kernel
theorem dL_law_974 : decode cL_law 974 = .ok (.iload_n 3, 1) := by decide +kernel
theorem dL_law_975 : decode cL_law 975 = .ok (.iconst 1, 1) := by decide +kernel
theorem dL_law_976 : decode cL_law 976 = .ok (.iadd, 1) := by decide +kernel
theorem dL_law_977 : decode cL_law 977 = .ok (.iaload, 1) := by decide +kernel
theorem dL_law_978 : decode cL_law 978 = .ok (.invokevirtual 139, 3) := by decide +kernel
theorem dL_law_981 : decode cL_law 981 = .ok (.if_icmp .eq 51, 3) := by decide +kernel
theorem dL_law_984 : decode cL_law 984 = .ok (.iconst 0, 1) := by decide +kernel
theorem dL_law_985 : decode cL_law 985 = .ok (.ireturn, 1) := by decide +kernel
theorem dL_law_986 : decode cL_law 986 = .ok (.aload_n 1, 1) := by decide +kernel
theorem dL_law_987 : decode cL_law 987 = .ok (.aload_n 0, 1) := by decide +kernel
theorem dL_law_988 : decode cL_law 988 = .ok (.iload_n 3, 1) := by decide +kernel
theorem dL_law_989 : decode cL_law 989 = .ok (.iconst 1, 1) := by decide +kernel
theorem dL_law_990 : decode cL_law 990 = .ok (.iadd, 1) := by decide +kernel
theorem dL_law_991 : decode cL_law 991 = .ok (.iaload, 1) := by decide +kernel
theorem dL_law_992 : decode cL_law 992 = .ok (.invokevirtual 140, 3) := by decide +kernel
theorem dL_law_995 : decode cL_law 995 = .ok (.aload_n 2, 1) := by decide +kernel
theorem dL_law_996 : decode cL_law 996 = .ok (.aload_n 0, 1) := by decide +kernel
theorem dL_law_997 : decode cL_law 997 = .ok (.iload_n 3, 1) := by decide +kernel
theorem dL_law_998 : decode cL_law 998 = .ok (.iconst 1, 1) := by decide +kernel
theorem dL_law_999 : decode cL_law 999 = .ok (.iadd, 1) := by decide +kernel
theorem dL_law_1000 : decode cL_law 1000 = .ok (.iaload, 1) := by decide +kernel
theorem dL_law_1001 : decode cL_law 1001 = .ok (.invokevirtual 143, 3) := by decide +kernel
theorem dL_law_1004 : decode cL_law 1004 = .ok (.if_icmp .eq 28, 3) := by decide +kernel
theorem dL_law_1007 : decode cL_law 1007 = .ok (.iconst 0, 1) := by decide +kernel
theorem dL_law_1008 : decode cL_law 1008 = .ok (.ireturn, 1) := by decide +kernel
theorem dL_law_1009 : decode cL_law 1009 = .ok (.aload_n 1, 1) := by decide +kernel
theorem dL_law_1010 : decode cL_law 1010 = .ok (.aload_n 0, 1) := by decide +kernel
theorem dL_law_1011 : decode cL_law 1011 = .ok (.iload_n 3, 1) := by decide +kernel
theorem dL_law_1012 : decode cL_law 1012 = .ok (.iconst 1, 1) := by decide +kernel
theorem dL_law_1013 : decode cL_law 1013 = .ok (.iadd, 1) := by decide +kernel
theorem dL_law_1014 : decode cL_law 1014 = .ok (.iaload, 1) := by decide +kernel
theorem dL_law_1015 : decode cL_law 1015 = .ok (.invokevirtual 144, 3) := by decide +kernel
theorem dL_law_1018 : decode cL_law 1018 = .ok (.aload_n 2, 1) := by decide +kernel
theorem dL_law_1019 : decode cL_law 1019 = .ok (.aload_n 0, 1) := by decide +kernel
theorem dL_law_1020 : decode cL_law 1020 = .ok (.iload_n 3, 1) := by decide +kernel
end
section
theorem dL_law_1021 : decode cL_law 1021 = .ok (.iconst 1, 1) := by decide +kernel
theorem dL_law_1022 : decode cL_law 1022 = .ok (.iadd, 1) := by decide +kernel
theorem dL_law_1023 : decode cL_law 1023 = .ok (.iaload, 1) := by decide +kernel
theorem dL_law_1024 : decode cL_law 1024 = .ok (.invokevirtual 147, 3) := by decide +kernel
theorem dL_law_1027 : decode cL_law 1027 = .ok (.if_icmp .eq 5, 3) := by decide +kernel
theorem dL_law_1030 : decode cL_law 1030 = .ok (.iconst 0, 1) := by decide +kernel
theorem dL_law_1031 : decode cL_law 1031 = .ok (.ireturn, 1) := by decide +kernel
theorem dL_law_1032 : decode cL_law 1032 = .ok (.iinc 3 5, 3) := by decide +kernel
theorem dL_law_1035 : decode cL_law 1035 = .ok (.goto (-1017), 3) := by decide +kernel
theorem dL_law_1038 : decode cL_law 1038 = .ok (.iconst 1, 1) := by decide +kernel
theorem dL_law_1039 : decode cL_law 1039 = .ok (.ireturn, 1) := by decide +kernel
end
section
/-! THE MACHINE IN NUMBERED CELLS. A world is a list of cells; a reference is the cell's place in the list (places from zE0 on: cells of the start that nobody writes). Z: from this frame the method ends as the contract says. -/
abbrev zE : Type := (FieldType × vp_A) ⊕ (Nat × List Value)
abbrev zH : Type := List zE
abbrev zL : Type := List (Nat × Value)
/-- launch, classes' numbers, array classes' numbers, the first address, the addresses of the start's cells -/
abbrev zG : Type := Launch × va_G × (FieldType → ClassId) × Nat × (Nat → Nat)
def zE0 : Nat := 1000000
def zkap (g : zG) (ty : FieldType) : ClassId := g.2.2.1 ty
def zbase (g : zG) : Nat := g.2.2.2.1
def za (g : zG) (k : Nat) : Nat := if k < zE0 then g.2.2.2.1 + k else g.2.2.2.2 k
def zv (g : zG) : Value → Value
  | .ref k => .ref (za g k)
  | v => v
theorem zv_int (g : zG) (x : Int32) : zv g (.int x) = .int x := rfl
theorem zv_long (g : zG) (x : Int64) : zv g (.long x) = .long x := rfl
theorem zv_null (g : zG) : zv g .null = .null := rfl
theorem zv_ref (g : zG) (k : Nat) : zv g (.ref k) = .ref (za g k) := rfl
theorem zv_cat (g : zG) (v : Value) : (zv g v).category = v.category := by cases v <;> rfl
def zc (g : zG) : zE → va_E
  | .inl q => .inl (zkap g q.1, q.2)
  | .inr o => .inr (o.1, o.2.map (zv g))
def zw (g : zG) (h : zH) : va_W := h.mapIdx (fun k e => (za g k, zc g e))
theorem zw_get {g : zG} {h : zH} {k : Nat} {e : zE} (hk : h[k]? = some e) : (zw g h)[k]? = some (za g k, zc g e) := by
  simp [zw, List.getElem?_mapIdx, hk]
theorem zw_get' {g : zG} {h : zH} {k : Nat} {q : Nat × va_E} (hk : (zw g h)[k]? = some q) : ∃ e, h[k]? = some e ∧ q = (za g k, zc g e) := by
  simp only [zw, List.getElem?_mapIdx] at hk
  cases hh : h[k]? with
  | none => rw [hh] at hk; cases hk
  | some e => rw [hh] at hk; exact ⟨e, rfl, (Option.some.inj hk).symm⟩
theorem zw_set (g : zG) (h : zH) (k : Nat) (e : zE) : (zw g h).set k (za g k, zc g e) = zw g (h.set k e) := by
  apply List.ext_getElem?
  intro i
  simp only [zw, List.getElem?_mapIdx, List.getElem?_set, List.length_mapIdx]
  by_cases hi : k = i
  · subst hi
    by_cases hl : k < h.length
    · simp [hl]
    · simp [hl]
  · simp [hi]
theorem zw_push (g : zG) (h : zH) (e : zE) : zw g h ++ [(za g h.length, zc g e)] = zw g (h ++ [e]) := by
  simp [zw, List.mapIdx_append]
/-- the free cells: those from the first address on -/
def zA (g : zG) : Nat → Prop := fun q => zbase g ≤ q
theorem za_lt {g : zG} {k : Nat} (h : k < zE0) : za g k = zbase g + k := by simp [za, h, zbase]
theorem zD {g : zG} {h : zH} (hl : h.length ≤ zE0) : va_D (zA g) (zw g h) := by
  have key : ∀ (k : Nat) (q : Nat × va_E), (zw g h)[k]? = some q → q.1 = zbase g + k := by
    intro k q hk
    obtain ⟨e, he, rfl⟩ := zw_get' hk
    have hlt := (List.getElem?_eq_some_iff.mp he).1
    exact za_lt (Nat.lt_of_lt_of_le hlt hl)
  refine ⟨fun i j p q hi hj hpq => ?_, fun k q hk => ?_⟩
  · have h1 := key i p hi
    have h2 := key j q hj
    omega
  · have h1 := key k q hk
    show zbase g ≤ q.1
    omega
/-! what the start holds: String constants, two statics of the JDK -/
def zstrs : List (String × Nat × String × List Int32) := [(RX3, 81, "sun", [115, 117, 110]), (RX3, 90, "yard", [121, 97, 114, 100]), (RX3, 95, "dead", [100, 101, 97, 100]), (RX1, 47, "rank", [114, 97, 110, 107]), (RX1, 53, "waits", [119, 97, 105, 116, 115]), (RX1, 55, "gifts", [103, 105, 102, 116, 115]), (RX1, 57, "kin", [107, 105, 110])]
def zbyt : List (List Int32) := zstrs.map (fun q => q.2.2.2)
def zlen : List Nat := zbyt.map List.length
/-- the places of the start's cells: String i at zE0 + i, its bytes at zE0 + 10 + i, what SIOOBE_FORMATTER holds at zE0 + 20 -/
def zX (g : zG) (s : State) : Prop :=
  va_Z "java/lang/String" "COMPACT_STRINGS" "Z" (.int 1) (zA g) s s.heap ∧
  (va_Z "jdk/internal/util/Preconditions" "SIOOBE_FORMATTER" "Ljava/util/function/BiFunction;" .null (zA g) s s.heap ∨ va_Z "jdk/internal/util/Preconditions" "SIOOBE_FORMATTER" "Ljava/util/function/BiFunction;" (.ref (za g (zE0 + 20))) (zA g) s s.heap) ∧
  vk_S 7 zlen zbyt (fun i => za g (zE0 + i)) (fun i => za g (zE0 + 10 + i)) (zA g) s s.heap ∧
  ∀ (i : Nat) (q : String × Nat × String × List Int32), zstrs[i]? = some q → vk_R q.1 q.2.1 q.2.2.1 (za g (zE0 + i)) s
theorem zX_moved {g : zG} {u U : State} (hW : u.WarmedH U.vm) (hS : va_S (zA g) u.heap U.heap []) (h : zX g u) : zX g U := by
  obtain ⟨h1, h2, h3, h4⟩ := h
  have hq : ∀ a : Nat, a < u.heap.size → ¬ zA g a → U.heap[a]? = u.heap[a]? := hS.2.1
  refine ⟨(va_Z.moved hW.alike h1).kept hq, ?_, (vk_S.moved hW.alike h3).kept hq, fun i q hi => (h4 i q hi).warm hW⟩
  rcases h2 with h2 | h2
  · exact Or.inl ((va_Z.moved hW.alike h2).kept hq)
  · exact Or.inr ((va_Z.moved hW.alike h2).kept hq)
theorem zX_same {g : zG} {u U : State} (hv : u.vm = U.vm) (hh : u.heap = U.heap) (h : zX g u) : zX g U := by
  obtain ⟨h1, h2, h3, h4⟩ := h
  have hal : u.vm.Alike U.vm := by rw [hv]; exact Vm.Alike.refl _
  refine ⟨by rw [← hh]; exact va_Z.moved hal h1, ?_, by rw [← hh]; exact vk_S.moved hal h3, fun i q hi => (h4 i q hi).same hv.symm⟩
  rcases h2 with h2 | h2
  · exact Or.inl (by rw [← hh]; exact va_Z.moved hal h2)
  · exact Or.inr (by rw [← hh]; exact va_Z.moved hal h2)
theorem zNW_moved {u U : State} (hW : u.WarmedH U.vm) {w : Cond} (hw : w ∈ zNW) (h : va_Nw w u) : va_Nw w U := by
  have hn := List.all_eq_true.mp zNW_nest w hw
  cases w with
  | fieldLinkNest a i b n d hh => exact va_Nw.warmF hW h
  | methodLinkNest a i x hh => exact va_Nw.warmM hW h
  | _ => exact absurd hn (by simp [zisNest])
theorem zNW_same {u U : State} (hv : u.vm = U.vm) {w : Cond} (hw : w ∈ zNW) (h : va_Nw w u) : va_Nw w U := by
  have hn := List.all_eq_true.mp zNW_nest w hw
  cases w with
  | fieldLinkNest a i b n d hh => exact va_Nw.same rfl hv h
  | methodLinkNest a i x hh => exact va_Nw.same rfl hv h
  | _ => exact absurd hn (by simp [zisNest])
/-- what is known of the machine's tables, at any state of a run -/
def zK (g : zG) (s : State) : Prop :=
  va_K g.2.1 vwCl [] s ∧ (∀ (ty : FieldType) (cA : ClassId), s.vm.findClass ("[" ++ ty.toString) = some cA → cA = zkap g ty) ∧ (∀ w ∈ zNW, va_Nw w s) ∧ zX g s
/-- the world, on the heap -/
def zO (g : zG) (s : State) (h : zH) (H : Heap) : Prop :=
  va_P g.2.1 vwCl (zw g h) H ∧ H.size = zbase g + h.length ∧ h.length ≤ zE0 ∧ (∀ (k : Nat) (ty : FieldType) (x : vp_A), h[k]? = some (.inl (ty, x)) → ArrOfT s (zkap g ty) ty ∧ va_RA s (zkap g ty) ty)
theorem zK.moved {g : zG} {u U : State} (hW : u.WarmedH U.vm) (hS : va_S (zA g) u.heap U.heap []) (h : zK g u) : zK g U := by
  obtain ⟨h1, h2, h3, h4⟩ := h
  refine ⟨va_K.moved hW.alike h1, fun ty cA q => h2 ty cA (by rw [← hW.alike.findClass]; exact q), fun w hw => zNW_moved hW hw (h3 w hw), zX_moved hW hS h4⟩
theorem zK.same {g : zG} {u U : State} (hv : u.vm = U.vm) (hh : u.heap = U.heap) (h : zK g u) : zK g U := by
  obtain ⟨h1, h2, h3, h4⟩ := h
  refine ⟨va_K.moved (by rw [hv]; exact Vm.Alike.refl _) h1, fun ty cA q => h2 ty cA (by rw [hv]; exact q), fun w hw => zNW_same hv hw (h3 w hw), zX_same hv hh h4⟩
theorem zO.moved {g : zG} {u U : State} {h : zH} {H : Heap} (hvm : u.vm.Alike U.vm) (hO : zO g u h H) : zO g U h H :=
  ⟨hO.1, hO.2.1, hO.2.2.1, fun k ty x hk => ⟨arrOfT_moved hvm (hO.2.2.2 k ty x hk).1, (hO.2.2.2 k ty x hk).2.moved hvm⟩⟩
/-- a method: its name, code, locals, answer's type -/
abbrev zM : Type := MethodName × ByteArray × Nat × Option FieldType
abbrev zy (M : zM) : MethodName := M.1
abbrev zcc (M : zM) : ByteArray := M.2.1
abbrev zmL (M : zM) : Nat := M.2.2.1
abbrev zrt (M : zM) : Option FieldType := M.2.2.2
abbrev zcw (M : zM) : Cond := Cond.code (zy M) (zcc M) (zmL M) (zrt M)
def zws (M : zM) : List Cond := zcw M :: zT
def zPz (g : zG) (av : List Value) (h : zH) : Array Value → State → Prop := fun a U => a = (av.map (zv g)).toArray ∧ zK g U ∧ zO g U h U.heap
def zQz (g : zG) (Q : Option Value → zH → Prop) : Array Value → State → Outcome → State → Prop := fun _ st o t =>
  (∃ (r : Option Value) (h1 : zH), o = .returned (r.map (zv g)) ∧ Q r h1 ∧ zO g t h1 t.heap) ∧ va_F (zA g) st t
def zrm (d mc ms : Nat) : Room := { frames := d, cells := mc, slots := ms, locals := 60 * d }
/-- THE CONTRACT of a method: called with av in the world h, at depth d, it makes at most mc cells of ms slots, and its answer and the world behind it are as Q says -/
def Ev (M : zM) (d mc ms : Nat) (av : List Value) (h : zH) (Q : Option Value → zH → Prop) : Prop :=
  ∀ g : zG, Met g.1 (zy M) (zws M) (zrm d mc ms) (zPz g av h) (zQz g Q) mc ms (zA g)
abbrev zF : Type := Program → Env → Room → State → MethodId → Array Value → List Frame → Method → Code → zG → (State → Prop) → Prop
/-- the frame's fixed things: the end wanted, depth, cells and slots that it may use, the method -/
abbrev zB : Type := zF × Nat × Nat × Nat × zM
abbrev zbM (B : zB) : zM := B.2.2.2.2
abbrev zbc (B : zB) : ByteArray := zcc B.2.2.2.2
abbrev zbD (B : zB) : Nat := B.2.1
def zOk (B : zB) (p : Program) (e : Env) (R : Room) (s : State) (m : MethodId) (args : Array Value) (below : List Frame) (meth : Method) (c : Code) (g : zG) : Prop :=
  p.tables.exec = Jvm.exec ∧ c.code = zbc B ∧ c.maxLocals = zmL (zbM B) ∧ s.vm.findClass (zy (zbM B)).cls = some m.cls ∧ (∀ w ∈ zT, w.before args s = true) ∧ meth.locks = false ∧ meth.sig.returnType = zrt (zbM B) ∧ ((zy (zbM B)).name = "<init>" → meth.name = "<init>") ∧ zbD B ≤ R.frames ∧ 60 * zbD B ≤ R.locals ∧ B.2.2.1 ≤ R.cells ∧ B.2.2.2.1 ≤ R.slots ∧ zK g s ∧ zbase g ≤ s.heap.size
def zloc (g : zG) (lv : zL) : List (Nat × Value) := lv.map (fun q => (q.1, zv g q.2))
/-- from this frame the method ends as wanted -/
def Z (B : zB) (pc : Nat) (lv : zL) (st : List Value) (h : zH) (ce sl : Nat) : Prop :=
  ∀ (p : Program) (e : Env) (R : Room) (s : State) (m : MethodId) (args : Array Value) (below : List Frame) (meth : Method) (c : Code) (g : zG) (Qf : State → Prop),
    B.1 p e R s m args below meth c g Qf → zOk B p e R s m args below meth c g →
    ∀ (H : Heap) (locs : List Loc) (ls : Array Slot), zO g s h H → va_S (zA g) s.heap H locs → lv_has ls (zmL (zbM B)) (zloc g lv) → W p g.1 e R s m args below meth c H locs ce sl Qf (F0 m pc ls (st.map (zv g)))
theorem zloc_at {g : zG} {lv : zL} {k i : Nat} {v : Value} (hk : lv[k]? = some (i, v)) : (zloc g lv)[k]? = some (i, zv g v) := by simp [zloc, hk]
def zst1 (lv : zL) (i : Nat) (v : Value) : zL := (i, v) :: lv.filter (fun q => !(q.1 == i) && !(q.1 + 1 == i && q.2.category == 2))
def zst2 (lv : zL) (i : Nat) (v : Value) : zL := (i, v) :: lv.filter (fun q => !(q.1 == i) && (!(q.1 == i + 1) && !(q.1 + 1 == i && q.2.category == 2)))
theorem zst1_eq {g : zG} {lv lv' : zL} {i : Nat} {v : Value} (h : zst1 lv i v = lv') : (i, zv g v) :: (zloc g lv).filter (fun q => !(q.1 == i) && !(q.1 + 1 == i && q.2.category == 2)) = zloc g lv' := by
  subst h
  simp [zst1, zloc, List.filter_map, Function.comp_def, zv_cat]
theorem zst2_eq {g : zG} {lv lv' : zL} {i : Nat} {v : Value} (h : zst2 lv i v = lv') : (i, zv g v) :: (zloc g lv).filter (fun q => !(q.1 == i) && (!(q.1 == i + 1) && !(q.1 + 1 == i && q.2.category == 2))) = zloc g lv' := by
  subst h
  simp [zst2, zloc, List.filter_map, Function.comp_def, zv_cat]
section ZI
variable {B : zB} {pc : Nat} {lv lv' : zL} {st : List Value} {h : zH} {ce sl : Nat}
/-- fewer locals, in any order, by their places -/
theorem z_sub (ks : List Nat) (hl : lv_pick lv ks = lv') (k : Z B pc lv' st h ce sl) : Z B pc lv st h ce sl := by
  intro p e R s m args below meth c g Qf hF hO H locs ls hH hS hl0
  refine k p e R s m args below meth c g Qf hF hO H locs ls hH hS (lv_sub hl0 ks ?_)
  subst hl
  simp only [lv_pick, zloc, List.map_filterMap, List.getElem?_map]
theorem z_widen {c2 s2 : Nat} (h1 : ce ≤ c2) (h2 : sl ≤ s2) (k : Z B pc lv st h c2 s2) : Z B pc lv st h ce sl := by
  intro p e R s m args below meth c g Qf hF hO H locs ls hH hS hl0
  exact W.widen h1 h2 (k p e R s m args below meth c g Qf hF hO H locs ls hH hS hl0)
theorem z_iconst {n : Int} (v : Int32) (hd : decode (zbc B) pc = .ok (.iconst n, 1)) (hv : Int32.ofInt n = v) (k : Z B (pc + 1) lv (.int v :: st) h ce sl) : Z B pc lv (st) h ce sl := by
  intro p e R s m args below meth c g Qf hF hO H locs ls hH hS hl0
  exact lv_iconst hO.1 hO.2.1 hd hv (k p e R s m args below meth c g Qf hF hO H locs ls hH hS hl0)
theorem z_bipush {n : Int} (v : Int32) (hd : decode (zbc B) pc = .ok (.bipush n, 2)) (hv : (Int8.ofInt n).toInt32 = v) (k : Z B (pc + 2) lv (.int v :: st) h ce sl) : Z B pc lv (st) h ce sl := by
  intro p e R s m args below meth c g Qf hF hO H locs ls hH hS hl0
  exact lv_bipush hO.1 hO.2.1 hd hv (k p e R s m args below meth c g Qf hF hO H locs ls hH hS hl0)
theorem z_sipush {n : Int} (v : Int32) (hd : decode (zbc B) pc = .ok (.sipush n, 3)) (hv : (Int16.ofInt n).toInt32 = v) (k : Z B (pc + 3) lv (.int v :: st) h ce sl) : Z B pc lv (st) h ce sl := by
  intro p e R s m args below meth c g Qf hF hO H locs ls hH hS hl0
  exact lv_sipush hO.1 hO.2.1 hd hv (k p e R s m args below meth c g Qf hF hO H locs ls hH hS hl0)
theorem z_lconst {n : Fin 2} (v : Int64) (hd : decode (zbc B) pc = .ok (.lconst n, 1)) (hv : Int64.ofNat (n : Nat) = v) (k : Z B (pc + 1) lv (.long v :: st) h ce sl) : Z B pc lv (st) h ce sl := by
  intro p e R s m args below meth c g Qf hF hO H locs ls hH hS hl0
  exact lv_lconst hO.1 hO.2.1 hd hv (k p e R s m args below meth c g Qf hF hO H locs ls hH hS hl0)
theorem z_null  (hd : decode (zbc B) pc = .ok (.aconst_null, 1)) (k : Z B (pc + 1) lv (.null :: st) h ce sl) : Z B pc lv (st) h ce sl := by
  intro p e R s m args below meth c g Qf hF hO H locs ls hH hS hl0
  exact lv_null hO.1 hO.2.1 hd (k p e R s m args below meth c g Qf hF hO H locs ls hH hS hl0)
theorem z_ldc {idx : Nat} (v : Int32) (hd : decode (zbc B) pc = .ok (.ldc idx, 2)) (hw : Jvm.Cond.constant (zy (zbM B)).cls idx v ∈ zT) (k : Z B (pc + 2) lv (.int v :: st) h ce sl) : Z B pc lv (st) h ce sl := by
  intro p e R s m args below meth c g Qf hF hO H locs ls hH hS hl0
  exact lv_ldc hO.1 hO.2.1 hO.2.2.2.1 (hO.2.2.2.2.1 _ hw) hd (k p e R s m args below meth c g Qf hF hO H locs ls hH hS hl0)
theorem z_ldcw {idx : Nat} (v : Int32) (hd : decode (zbc B) pc = .ok (.ldc_w idx, 3)) (hw : Jvm.Cond.constant (zy (zbM B)).cls idx v ∈ zT) (k : Z B (pc + 3) lv (.int v :: st) h ce sl) : Z B pc lv (st) h ce sl := by
  intro p e R s m args below meth c g Qf hF hO H locs ls hH hS hl0
  exact lv_ldcw hO.1 hO.2.1 hO.2.2.2.1 (hO.2.2.2.2.1 _ hw) hd (k p e R s m args below meth c g Qf hF hO H locs ls hH hS hl0)
theorem z_ldc2 {idx : Nat} (v : Int64) (hd : decode (zbc B) pc = .ok (.ldc2_w idx, 3)) (hw : Jvm.Cond.constantLong (zy (zbM B)).cls idx v ∈ zT) (k : Z B (pc + 3) lv (.long v :: st) h ce sl) : Z B pc lv (st) h ce sl := by
  intro p e R s m args below meth c g Qf hF hO H locs ls hH hS hl0
  exact lv_ldc2 hO.1 hO.2.1 hO.2.2.2.1 (hO.2.2.2.2.1 _ hw) hd (k p e R s m args below meth c g Qf hF hO H locs ls hH hS hl0)
theorem z_iload_n {n : Fin 4} {i : Nat} {x : Int32} (j : Nat) (hd : decode (zbc B) pc = .ok (.iload_n n, 1)) (hi : (n : Nat) = i) (hj : lv[j]? = some (i, .int x)) (k : Z B (pc + 1) lv (.int x :: st) h ce sl) : Z B pc lv (st) h ce sl := by
  intro p e R s m args below meth c g Qf hF hO H locs ls hH hS hl0
  exact lv_iload_n hO.1 hO.2.1 hd hi (lv_at hl0 j (zloc_at hj)) (k p e R s m args below meth c g Qf hF hO H locs ls hH hS hl0)
theorem z_iload {i : Nat} {x : Int32} (j : Nat) (hd : decode (zbc B) pc = .ok (.iload i, 2)) (hj : lv[j]? = some (i, .int x)) (k : Z B (pc + 2) lv (.int x :: st) h ce sl) : Z B pc lv (st) h ce sl := by
  intro p e R s m args below meth c g Qf hF hO H locs ls hH hS hl0
  exact lv_iload hO.1 hO.2.1 hd (lv_at hl0 j (zloc_at hj)) (k p e R s m args below meth c g Qf hF hO H locs ls hH hS hl0)
theorem z_lload_n {n : Fin 4} {i : Nat} {x : Int64} (j : Nat) (hd : decode (zbc B) pc = .ok (.lload_n n, 1)) (hi : (n : Nat) = i) (hj : lv[j]? = some (i, .long x)) (k : Z B (pc + 1) lv (.long x :: st) h ce sl) : Z B pc lv (st) h ce sl := by
  intro p e R s m args below meth c g Qf hF hO H locs ls hH hS hl0
  exact lv_lload_n hO.1 hO.2.1 hd hi (lv_at hl0 j (zloc_at hj)) (k p e R s m args below meth c g Qf hF hO H locs ls hH hS hl0)
theorem z_lload {i : Nat} {x : Int64} (j : Nat) (hd : decode (zbc B) pc = .ok (.lload i, 2)) (hj : lv[j]? = some (i, .long x)) (k : Z B (pc + 2) lv (.long x :: st) h ce sl) : Z B pc lv (st) h ce sl := by
  intro p e R s m args below meth c g Qf hF hO H locs ls hH hS hl0
  exact lv_lload hO.1 hO.2.1 hd (lv_at hl0 j (zloc_at hj)) (k p e R s m args below meth c g Qf hF hO H locs ls hH hS hl0)
theorem z_aload_n {n : Fin 4} {i : Nat} {x : Nat} (j : Nat) (hd : decode (zbc B) pc = .ok (.aload_n n, 1)) (hi : (n : Nat) = i) (hj : lv[j]? = some (i, .ref x)) (k : Z B (pc + 1) lv (.ref x :: st) h ce sl) : Z B pc lv (st) h ce sl := by
  intro p e R s m args below meth c g Qf hF hO H locs ls hH hS hl0
  exact lv_aload_n hO.1 hO.2.1 hd hi (lv_at hl0 j (zloc_at hj)) (k p e R s m args below meth c g Qf hF hO H locs ls hH hS hl0)
theorem z_aload {i : Nat} {x : Nat} (j : Nat) (hd : decode (zbc B) pc = .ok (.aload i, 2)) (hj : lv[j]? = some (i, .ref x)) (k : Z B (pc + 2) lv (.ref x :: st) h ce sl) : Z B pc lv (st) h ce sl := by
  intro p e R s m args below meth c g Qf hF hO H locs ls hH hS hl0
  exact lv_aload hO.1 hO.2.1 hd (lv_at hl0 j (zloc_at hj)) (k p e R s m args below meth c g Qf hF hO H locs ls hH hS hl0)
theorem z_aload_nN {n : Fin 4} {i : Nat} (j : Nat) (hd : decode (zbc B) pc = .ok (.aload_n n, 1)) (hi : (n : Nat) = i) (hj : lv[j]? = some (i, .null)) (k : Z B (pc + 1) lv (.null :: st) h ce sl) : Z B pc lv (st) h ce sl := by
  intro p e R s m args below meth c g Qf hF hO H locs ls hH hS hl0
  exact lv_aload_nN hO.1 hO.2.1 hd hi (lv_at hl0 j (zloc_at hj)) (k p e R s m args below meth c g Qf hF hO H locs ls hH hS hl0)
theorem z_aloadN {i : Nat} (j : Nat) (hd : decode (zbc B) pc = .ok (.aload i, 2)) (hj : lv[j]? = some (i, .null)) (k : Z B (pc + 2) lv (.null :: st) h ce sl) : Z B pc lv (st) h ce sl := by
  intro p e R s m args below meth c g Qf hF hO H locs ls hH hS hl0
  exact lv_aloadN hO.1 hO.2.1 hd (lv_at hl0 j (zloc_at hj)) (k p e R s m args below meth c g Qf hF hO H locs ls hH hS hl0)
theorem z_istore_n {n : Fin 4} {i : Nat} {x : Int32} (hd : decode (zbc B) pc = .ok (.istore_n n, 1)) (hi : (n : Nat) = i) (hn : i < zmL (zbM B)) (hl : zst1 lv i (.int x) = lv') (k : Z B (pc + 1) lv' st h ce sl) : Z B pc lv (.int x :: st) h ce sl := by
  intro p e R s m args below meth c g Qf hF hO H locs ls hH hS hl0
  exact lv_istore_n hO.1 hO.2.1 hd hi hl0 hn (zst1_eq hl) (fun ls' hl' => k p e R s m args below meth c g Qf hF hO H locs ls' hH hS hl')
theorem z_istore {i : Nat} {x : Int32} (hd : decode (zbc B) pc = .ok (.istore i, 2)) (hn : i < zmL (zbM B)) (hl : zst1 lv i (.int x) = lv') (k : Z B (pc + 2) lv' st h ce sl) : Z B pc lv (.int x :: st) h ce sl := by
  intro p e R s m args below meth c g Qf hF hO H locs ls hH hS hl0
  exact lv_istore hO.1 hO.2.1 hd hl0 hn (zst1_eq hl) (fun ls' hl' => k p e R s m args below meth c g Qf hF hO H locs ls' hH hS hl')
theorem z_lstore_n {n : Fin 4} {i : Nat} {x : Int64} (hd : decode (zbc B) pc = .ok (.lstore_n n, 1)) (hi : (n : Nat) = i) (hn : i + 1 < zmL (zbM B)) (hl : zst2 lv i (.long x) = lv') (k : Z B (pc + 1) lv' st h ce sl) : Z B pc lv (.long x :: st) h ce sl := by
  intro p e R s m args below meth c g Qf hF hO H locs ls hH hS hl0
  exact lv_lstore_n hO.1 hO.2.1 hd hi hl0 hn (zst2_eq hl) (fun ls' hl' => k p e R s m args below meth c g Qf hF hO H locs ls' hH hS hl')
theorem z_lstore {i : Nat} {x : Int64} (hd : decode (zbc B) pc = .ok (.lstore i, 2)) (hn : i + 1 < zmL (zbM B)) (hl : zst2 lv i (.long x) = lv') (k : Z B (pc + 2) lv' st h ce sl) : Z B pc lv (.long x :: st) h ce sl := by
  intro p e R s m args below meth c g Qf hF hO H locs ls hH hS hl0
  exact lv_lstore hO.1 hO.2.1 hd hl0 hn (zst2_eq hl) (fun ls' hl' => k p e R s m args below meth c g Qf hF hO H locs ls' hH hS hl')
theorem z_astore_n {n : Fin 4} {i : Nat} {x : Nat} (hd : decode (zbc B) pc = .ok (.astore_n n, 1)) (hi : (n : Nat) = i) (hn : i < zmL (zbM B)) (hl : zst1 lv i (.ref x) = lv') (k : Z B (pc + 1) lv' st h ce sl) : Z B pc lv (.ref x :: st) h ce sl := by
  intro p e R s m args below meth c g Qf hF hO H locs ls hH hS hl0
  exact lv_astore_n hO.1 hO.2.1 hd hi hl0 hn (zst1_eq hl) (fun ls' hl' => k p e R s m args below meth c g Qf hF hO H locs ls' hH hS hl')
theorem z_astore {i : Nat} {x : Nat} (hd : decode (zbc B) pc = .ok (.astore i, 2)) (hn : i < zmL (zbM B)) (hl : zst1 lv i (.ref x) = lv') (k : Z B (pc + 2) lv' st h ce sl) : Z B pc lv (.ref x :: st) h ce sl := by
  intro p e R s m args below meth c g Qf hF hO H locs ls hH hS hl0
  exact lv_astore hO.1 hO.2.1 hd hl0 hn (zst1_eq hl) (fun ls' hl' => k p e R s m args below meth c g Qf hF hO H locs ls' hH hS hl')
theorem z_iinc {i : Nat} {n : Int} {x : Int32} (j : Nat) (v : Int32) (hd : decode (zbc B) pc = .ok (.iinc i n, 3)) (hj : lv[j]? = some (i, .int x)) (hv : x + Int32.ofInt n = v) (hn : i < zmL (zbM B)) (hl : zst1 lv i (.int v) = lv') (k : Z B (pc + 3) lv' st h ce sl) : Z B pc lv st h ce sl := by
  intro p e R s m args below meth c g Qf hF hO H locs ls hH hS hl0
  exact lv_iinc hO.1 hO.2.1 hd hl0 (zloc_at (g := g) hj) hv hn (zst1_eq hl) (fun ls' hl' => k p e R s m args below meth c g Qf hF hO H locs ls' hH hS hl')
theorem z_iadd {x y : Int32} (hd : decode (zbc B) pc = .ok (.iadd, 1)) (k : Z B (pc + 1) lv (.int (x + y) :: st) h ce sl) : Z B pc lv (.int y :: .int x :: st) h ce sl := by
  intro p e R s m args below meth c g Qf hF hO H locs ls hH hS hl0
  exact lv_iadd hO.1 hO.2.1 hd (k p e R s m args below meth c g Qf hF hO H locs ls hH hS hl0)
theorem z_isub {x y : Int32} (hd : decode (zbc B) pc = .ok (.isub, 1)) (k : Z B (pc + 1) lv (.int (x - y) :: st) h ce sl) : Z B pc lv (.int y :: .int x :: st) h ce sl := by
  intro p e R s m args below meth c g Qf hF hO H locs ls hH hS hl0
  exact lv_isub hO.1 hO.2.1 hd (k p e R s m args below meth c g Qf hF hO H locs ls hH hS hl0)
theorem z_imul {x y : Int32} (hd : decode (zbc B) pc = .ok (.imul, 1)) (k : Z B (pc + 1) lv (.int (x * y) :: st) h ce sl) : Z B pc lv (.int y :: .int x :: st) h ce sl := by
  intro p e R s m args below meth c g Qf hF hO H locs ls hH hS hl0
  exact lv_imul hO.1 hO.2.1 hd (k p e R s m args below meth c g Qf hF hO H locs ls hH hS hl0)
theorem z_iand {x y : Int32} (hd : decode (zbc B) pc = .ok (.iand, 1)) (k : Z B (pc + 1) lv (.int (x &&& y) :: st) h ce sl) : Z B pc lv (.int y :: .int x :: st) h ce sl := by
  intro p e R s m args below meth c g Qf hF hO H locs ls hH hS hl0
  exact lv_iand hO.1 hO.2.1 hd (k p e R s m args below meth c g Qf hF hO H locs ls hH hS hl0)
theorem z_ior {x y : Int32} (hd : decode (zbc B) pc = .ok (.ior, 1)) (k : Z B (pc + 1) lv (.int (x ||| y) :: st) h ce sl) : Z B pc lv (.int y :: .int x :: st) h ce sl := by
  intro p e R s m args below meth c g Qf hF hO H locs ls hH hS hl0
  exact lv_ior hO.1 hO.2.1 hd (k p e R s m args below meth c g Qf hF hO H locs ls hH hS hl0)
theorem z_ixor {x y : Int32} (hd : decode (zbc B) pc = .ok (.ixor, 1)) (k : Z B (pc + 1) lv (.int (x ^^^ y) :: st) h ce sl) : Z B pc lv (.int y :: .int x :: st) h ce sl := by
  intro p e R s m args below meth c g Qf hF hO H locs ls hH hS hl0
  exact lv_ixor hO.1 hO.2.1 hd (k p e R s m args below meth c g Qf hF hO H locs ls hH hS hl0)
theorem z_ladd {x y : Int64} (hd : decode (zbc B) pc = .ok (.ladd, 1)) (k : Z B (pc + 1) lv (.long (x + y) :: st) h ce sl) : Z B pc lv (.long y :: .long x :: st) h ce sl := by
  intro p e R s m args below meth c g Qf hF hO H locs ls hH hS hl0
  exact lv_ladd hO.1 hO.2.1 hd (k p e R s m args below meth c g Qf hF hO H locs ls hH hS hl0)
theorem z_lsub {x y : Int64} (hd : decode (zbc B) pc = .ok (.lsub, 1)) (k : Z B (pc + 1) lv (.long (x - y) :: st) h ce sl) : Z B pc lv (.long y :: .long x :: st) h ce sl := by
  intro p e R s m args below meth c g Qf hF hO H locs ls hH hS hl0
  exact lv_lsub hO.1 hO.2.1 hd (k p e R s m args below meth c g Qf hF hO H locs ls hH hS hl0)
theorem z_lmul {x y : Int64} (hd : decode (zbc B) pc = .ok (.lmul, 1)) (k : Z B (pc + 1) lv (.long (x * y) :: st) h ce sl) : Z B pc lv (.long y :: .long x :: st) h ce sl := by
  intro p e R s m args below meth c g Qf hF hO H locs ls hH hS hl0
  exact lv_lmul hO.1 hO.2.1 hd (k p e R s m args below meth c g Qf hF hO H locs ls hH hS hl0)
theorem z_land {x y : Int64} (hd : decode (zbc B) pc = .ok (.land, 1)) (k : Z B (pc + 1) lv (.long (x &&& y) :: st) h ce sl) : Z B pc lv (.long y :: .long x :: st) h ce sl := by
  intro p e R s m args below meth c g Qf hF hO H locs ls hH hS hl0
  exact lv_land hO.1 hO.2.1 hd (k p e R s m args below meth c g Qf hF hO H locs ls hH hS hl0)
theorem z_lor {x y : Int64} (hd : decode (zbc B) pc = .ok (.lor, 1)) (k : Z B (pc + 1) lv (.long (x ||| y) :: st) h ce sl) : Z B pc lv (.long y :: .long x :: st) h ce sl := by
  intro p e R s m args below meth c g Qf hF hO H locs ls hH hS hl0
  exact lv_lor hO.1 hO.2.1 hd (k p e R s m args below meth c g Qf hF hO H locs ls hH hS hl0)
theorem z_lxor {x y : Int64} (hd : decode (zbc B) pc = .ok (.lxor, 1)) (k : Z B (pc + 1) lv (.long (x ^^^ y) :: st) h ce sl) : Z B pc lv (.long y :: .long x :: st) h ce sl := by
  intro p e R s m args below meth c g Qf hF hO H locs ls hH hS hl0
  exact lv_lxor hO.1 hO.2.1 hd (k p e R s m args below meth c g Qf hF hO H locs ls hH hS hl0)
theorem z_idiv {x y : Int32} (hd : decode (zbc B) pc = .ok (.idiv, 1)) (hne : ¬ y = 0) (k : Z B (pc + 1) lv (.int (x / y) :: st) h ce sl) : Z B pc lv (.int y :: .int x :: st) h ce sl := by
  intro p e R s m args below meth c g Qf hF hO H locs ls hH hS hl0
  exact lv_idiv hO.1 hO.2.1 hd hne (k p e R s m args below meth c g Qf hF hO H locs ls hH hS hl0)
theorem z_irem {x y : Int32} (hd : decode (zbc B) pc = .ok (.irem, 1)) (hne : ¬ y = 0) (k : Z B (pc + 1) lv (.int (x - x / y * y) :: st) h ce sl) : Z B pc lv (.int y :: .int x :: st) h ce sl := by
  intro p e R s m args below meth c g Qf hF hO H locs ls hH hS hl0
  exact lv_irem hO.1 hO.2.1 hd hne (k p e R s m args below meth c g Qf hF hO H locs ls hH hS hl0)
theorem z_ldiv {x y : Int64} (hd : decode (zbc B) pc = .ok (.ldiv, 1)) (hne : ¬ y = 0) (k : Z B (pc + 1) lv (.long (x / y) :: st) h ce sl) : Z B pc lv (.long y :: .long x :: st) h ce sl := by
  intro p e R s m args below meth c g Qf hF hO H locs ls hH hS hl0
  exact lv_ldiv hO.1 hO.2.1 hd hne (k p e R s m args below meth c g Qf hF hO H locs ls hH hS hl0)
theorem z_lrem {x y : Int64} (hd : decode (zbc B) pc = .ok (.lrem, 1)) (hne : ¬ y = 0) (k : Z B (pc + 1) lv (.long (x - x / y * y) :: st) h ce sl) : Z B pc lv (.long y :: .long x :: st) h ce sl := by
  intro p e R s m args below meth c g Qf hF hO H locs ls hH hS hl0
  exact lv_lrem hO.1 hO.2.1 hd hne (k p e R s m args below meth c g Qf hF hO H locs ls hH hS hl0)
theorem z_ineg {x : Int32} (hd : decode (zbc B) pc = .ok (.ineg, 1)) (k : Z B (pc + 1) lv (.int (0 - x) :: st) h ce sl) : Z B pc lv (.int x :: st) h ce sl := by
  intro p e R s m args below meth c g Qf hF hO H locs ls hH hS hl0
  exact lv_ineg hO.1 hO.2.1 hd (k p e R s m args below meth c g Qf hF hO H locs ls hH hS hl0)
theorem z_ishl {x y : Int32} (hd : decode (zbc B) pc = .ok (.ishl, 1)) (k : Z B (pc + 1) lv (.int (x <<< (y &&& 31)) :: st) h ce sl) : Z B pc lv (.int y :: .int x :: st) h ce sl := by
  intro p e R s m args below meth c g Qf hF hO H locs ls hH hS hl0
  exact lv_ishl hO.1 hO.2.1 hd (k p e R s m args below meth c g Qf hF hO H locs ls hH hS hl0)
theorem z_ishr {x y : Int32} (hd : decode (zbc B) pc = .ok (.ishr, 1)) (k : Z B (pc + 1) lv (.int (x >>> (y &&& 31)) :: st) h ce sl) : Z B pc lv (.int y :: .int x :: st) h ce sl := by
  intro p e R s m args below meth c g Qf hF hO H locs ls hH hS hl0
  exact lv_ishr hO.1 hO.2.1 hd (k p e R s m args below meth c g Qf hF hO H locs ls hH hS hl0)
theorem z_i2l {x : Int32} (hd : decode (zbc B) pc = .ok (.i2l, 1)) (k : Z B (pc + 1) lv (.long x.toInt64 :: st) h ce sl) : Z B pc lv (.int x :: st) h ce sl := by
  intro p e R s m args below meth c g Qf hF hO H locs ls hH hS hl0
  exact lv_i2l hO.1 hO.2.1 hd rfl (k p e R s m args below meth c g Qf hF hO H locs ls hH hS hl0)
theorem z_l2i {x : Int64} (hd : decode (zbc B) pc = .ok (.l2i, 1)) (k : Z B (pc + 1) lv (.int x.toInt32 :: st) h ce sl) : Z B pc lv (.long x :: st) h ce sl := by
  intro p e R s m args below meth c g Qf hF hO H locs ls hH hS hl0
  exact lv_l2i hO.1 hO.2.1 hd rfl (k p e R s m args below meth c g Qf hF hO H locs ls hH hS hl0)
theorem z_i2b {x : Int32} (hd : decode (zbc B) pc = .ok (.i2b, 1)) (k : Z B (pc + 1) lv (.int x.toInt8.toInt32 :: st) h ce sl) : Z B pc lv (.int x :: st) h ce sl := by
  intro p e R s m args below meth c g Qf hF hO H locs ls hH hS hl0
  exact lv_i2b hO.1 hO.2.1 hd rfl (k p e R s m args below meth c g Qf hF hO H locs ls hH hS hl0)
theorem z_iushr {x y : Int32} (hd : decode (zbc B) pc = .ok (.iushr, 1)) (k : Z B (pc + 1) lv (.int (x.toUInt32 >>> (y.toUInt32 &&& Int32.toUInt32 31)).toInt32 :: st) h ce sl) : Z B pc lv (.int y :: .int x :: st) h ce sl := by
  intro p e R s m args below meth c g Qf hF hO H locs ls hH hS hl0
  exact lv_iushr hO.1 hO.2.1 hd rfl (k p e R s m args below meth c g Qf hF hO H locs ls hH hS hl0)
theorem z_lushr {x : Int64} {y : Int32} (hd : decode (zbc B) pc = .ok (.lushr, 1)) (k : Z B (pc + 1) lv (.long (x.toUInt64 >>> (y.toInt64.toUInt64 &&& Int64.toUInt64 63)).toInt64 :: st) h ce sl) : Z B pc lv (.int y :: .long x :: st) h ce sl := by
  intro p e R s m args below meth c g Qf hF hO H locs ls hH hS hl0
  exact lv_lushr hO.1 hO.2.1 hd rfl (k p e R s m args below meth c g Qf hF hO H locs ls hH hS hl0)
theorem z_lshl {x : Int64} {y : Int32} (hd : decode (zbc B) pc = .ok (.lshl, 1)) (k : Z B (pc + 1) lv (.long (x <<< (y.toInt64 &&& 63)) :: st) h ce sl) : Z B pc lv (.int y :: .long x :: st) h ce sl := by
  intro p e R s m args below meth c g Qf hF hO H locs ls hH hS hl0
  exact lv_lshl hO.1 hO.2.1 hd rfl (k p e R s m args below meth c g Qf hF hO H locs ls hH hS hl0)
theorem z_lshr {x : Int64} {y : Int32} (hd : decode (zbc B) pc = .ok (.lshr, 1)) (k : Z B (pc + 1) lv (.long (x >>> (y.toInt64 &&& 63)) :: st) h ce sl) : Z B pc lv (.int y :: .long x :: st) h ce sl := by
  intro p e R s m args below meth c g Qf hF hO H locs ls hH hS hl0
  exact lv_lshr hO.1 hO.2.1 hd rfl (k p e R s m args below meth c g Qf hF hO H locs ls hH hS hl0)
theorem z_lcmp {x y : Int64} (hd : decode (zbc B) pc = .ok (.lcmp, 1)) (k : Z B (pc + 1) lv (.int (lg_cmp x y) :: st) h ce sl) : Z B pc lv (.long y :: .long x :: st) h ce sl := by
  intro p e R s m args below meth c g Qf hF hO H locs ls hH hS hl0
  exact W.lcmp hO.1 hO.2.1 hd (k p e R s m args below meth c g Qf hF hO H locs ls hH hS hl0)
theorem z_dup {v : Value} (hd : decode (zbc B) pc = .ok (.dup, 1)) (hv : v.category = 1) (k : Z B (pc + 1) lv (v :: v :: st) h ce sl) : Z B pc lv (v :: st) h ce sl := by
  intro p e R s m args below meth c g Qf hF hO H locs ls hH hS hl0
  exact lv_dup hO.1 hO.2.1 hd (by rw [zv_cat]; exact hv) (k p e R s m args below meth c g Qf hF hO H locs ls hH hS hl0)
theorem z_pop {v : Value} (hd : decode (zbc B) pc = .ok (.pop, 1)) (hv : v.category = 1) (k : Z B (pc + 1) lv (st) h ce sl) : Z B pc lv (v :: st) h ce sl := by
  intro p e R s m args below meth c g Qf hF hO H locs ls hH hS hl0
  exact lv_pop hO.1 hO.2.1 hd (by rw [zv_cat]; exact hv) (k p e R s m args below meth c g Qf hF hO H locs ls hH hS hl0)
theorem z_dup_x1 {v w : Value} (hd : decode (zbc B) pc = .ok (.dup_x1, 1)) (hv : v.category = 1) (hw : w.category = 1) (k : Z B (pc + 1) lv (v :: w :: v :: st) h ce sl) : Z B pc lv (v :: w :: st) h ce sl := by
  intro p e R s m args below meth c g Qf hF hO H locs ls hH hS hl0
  exact lv_dup_x1 hO.1 hO.2.1 hd (by rw [zv_cat]; exact hv) (by rw [zv_cat]; exact hw) (k p e R s m args below meth c g Qf hF hO H locs ls hH hS hl0)
theorem z_dup_x2 {v w u : Value} (hd : decode (zbc B) pc = .ok (.dup_x2, 1)) (hv : v.category = 1) (hw : w.category = 1) (hu : u.category = 1) (k : Z B (pc + 1) lv (v :: w :: u :: v :: st) h ce sl) : Z B pc lv (v :: w :: u :: st) h ce sl := by
  intro p e R s m args below meth c g Qf hF hO H locs ls hH hS hl0
  exact lv_dup_x2 hO.1 hO.2.1 hd (by rw [zv_cat]; exact hv) (by rw [zv_cat]; exact hw) (by rw [zv_cat]; exact hu) (k p e R s m args below meth c g Qf hF hO H locs ls hH hS hl0)
theorem z_dup2 {v w : Value} (hd : decode (zbc B) pc = .ok (.dup2, 1)) (hv : v.category = 1) (hw : w.category = 1) (k : Z B (pc + 1) lv (v :: w :: v :: w :: st) h ce sl) : Z B pc lv (v :: w :: st) h ce sl := by
  intro p e R s m args below meth c g Qf hF hO H locs ls hH hS hl0
  exact lv_dup2_11 hO.1 hO.2.1 hd (by rw [zv_cat]; exact hv) (by rw [zv_cat]; exact hw) (k p e R s m args below meth c g Qf hF hO H locs ls hH hS hl0)
theorem z_if_eq {x : Int32} {off : Int} (tgt : Nat) (hd : decode (zbc B) pc = .ok (.ifCond .eq off, 3)) (ht : (pc : Int) + off = (tgt : Int)) (kt : x = 0 → Z B tgt lv st h ce sl) (kf : ¬ x = 0 → Z B (pc + 3) lv st h ce sl) : Z B pc lv (.int x :: st) h ce sl := by
  intro p e R s m args below meth c g Qf hF hO H locs ls hH hS hl0
  exact lv_if_eq hO.1 hO.2.1 hd ht (fun q => kt q p e R s m args below meth c g Qf hF hO H locs ls hH hS hl0) (fun q => kf q p e R s m args below meth c g Qf hF hO H locs ls hH hS hl0)
theorem z_icmp_eq {x y : Int32} {off : Int} (tgt : Nat) (hd : decode (zbc B) pc = .ok (.if_icmp .eq off, 3)) (ht : (pc : Int) + off = (tgt : Int)) (kt : x = y → Z B tgt lv st h ce sl) (kf : ¬ x = y → Z B (pc + 3) lv st h ce sl) : Z B pc lv (.int y :: .int x :: st) h ce sl := by
  intro p e R s m args below meth c g Qf hF hO H locs ls hH hS hl0
  exact lv_icmp_eq hO.1 hO.2.1 hd ht (fun q => kt q p e R s m args below meth c g Qf hF hO H locs ls hH hS hl0) (fun q => kf q p e R s m args below meth c g Qf hF hO H locs ls hH hS hl0)
theorem z_if_ne {x : Int32} {off : Int} (tgt : Nat) (hd : decode (zbc B) pc = .ok (.ifCond .ne off, 3)) (ht : (pc : Int) + off = (tgt : Int)) (kt : ¬ x = 0 → Z B tgt lv st h ce sl) (kf : x = 0 → Z B (pc + 3) lv st h ce sl) : Z B pc lv (.int x :: st) h ce sl := by
  intro p e R s m args below meth c g Qf hF hO H locs ls hH hS hl0
  exact lv_if_ne hO.1 hO.2.1 hd ht (fun q => kt q p e R s m args below meth c g Qf hF hO H locs ls hH hS hl0) (fun q => kf q p e R s m args below meth c g Qf hF hO H locs ls hH hS hl0)
theorem z_icmp_ne {x y : Int32} {off : Int} (tgt : Nat) (hd : decode (zbc B) pc = .ok (.if_icmp .ne off, 3)) (ht : (pc : Int) + off = (tgt : Int)) (kt : ¬ x = y → Z B tgt lv st h ce sl) (kf : x = y → Z B (pc + 3) lv st h ce sl) : Z B pc lv (.int y :: .int x :: st) h ce sl := by
  intro p e R s m args below meth c g Qf hF hO H locs ls hH hS hl0
  exact lv_icmp_ne hO.1 hO.2.1 hd ht (fun q => kt q p e R s m args below meth c g Qf hF hO H locs ls hH hS hl0) (fun q => kf q p e R s m args below meth c g Qf hF hO H locs ls hH hS hl0)
theorem z_if_lt {x : Int32} {off : Int} (tgt : Nat) (hd : decode (zbc B) pc = .ok (.ifCond .lt off, 3)) (ht : (pc : Int) + off = (tgt : Int)) (kt : x < 0 → Z B tgt lv st h ce sl) (kf : ¬ x < 0 → Z B (pc + 3) lv st h ce sl) : Z B pc lv (.int x :: st) h ce sl := by
  intro p e R s m args below meth c g Qf hF hO H locs ls hH hS hl0
  exact lv_if_lt hO.1 hO.2.1 hd ht (fun q => kt q p e R s m args below meth c g Qf hF hO H locs ls hH hS hl0) (fun q => kf q p e R s m args below meth c g Qf hF hO H locs ls hH hS hl0)
theorem z_icmp_lt {x y : Int32} {off : Int} (tgt : Nat) (hd : decode (zbc B) pc = .ok (.if_icmp .lt off, 3)) (ht : (pc : Int) + off = (tgt : Int)) (kt : x < y → Z B tgt lv st h ce sl) (kf : ¬ x < y → Z B (pc + 3) lv st h ce sl) : Z B pc lv (.int y :: .int x :: st) h ce sl := by
  intro p e R s m args below meth c g Qf hF hO H locs ls hH hS hl0
  exact lv_icmp_lt hO.1 hO.2.1 hd ht (fun q => kt q p e R s m args below meth c g Qf hF hO H locs ls hH hS hl0) (fun q => kf q p e R s m args below meth c g Qf hF hO H locs ls hH hS hl0)
theorem z_if_ge {x : Int32} {off : Int} (tgt : Nat) (hd : decode (zbc B) pc = .ok (.ifCond .ge off, 3)) (ht : (pc : Int) + off = (tgt : Int)) (kt : 0 ≤ x → Z B tgt lv st h ce sl) (kf : ¬ 0 ≤ x → Z B (pc + 3) lv st h ce sl) : Z B pc lv (.int x :: st) h ce sl := by
  intro p e R s m args below meth c g Qf hF hO H locs ls hH hS hl0
  exact lv_if_ge hO.1 hO.2.1 hd ht (fun q => kt q p e R s m args below meth c g Qf hF hO H locs ls hH hS hl0) (fun q => kf q p e R s m args below meth c g Qf hF hO H locs ls hH hS hl0)
theorem z_icmp_ge {x y : Int32} {off : Int} (tgt : Nat) (hd : decode (zbc B) pc = .ok (.if_icmp .ge off, 3)) (ht : (pc : Int) + off = (tgt : Int)) (kt : y ≤ x → Z B tgt lv st h ce sl) (kf : ¬ y ≤ x → Z B (pc + 3) lv st h ce sl) : Z B pc lv (.int y :: .int x :: st) h ce sl := by
  intro p e R s m args below meth c g Qf hF hO H locs ls hH hS hl0
  exact lv_icmp_ge hO.1 hO.2.1 hd ht (fun q => kt q p e R s m args below meth c g Qf hF hO H locs ls hH hS hl0) (fun q => kf q p e R s m args below meth c g Qf hF hO H locs ls hH hS hl0)
theorem z_if_gt {x : Int32} {off : Int} (tgt : Nat) (hd : decode (zbc B) pc = .ok (.ifCond .gt off, 3)) (ht : (pc : Int) + off = (tgt : Int)) (kt : 0 < x → Z B tgt lv st h ce sl) (kf : ¬ 0 < x → Z B (pc + 3) lv st h ce sl) : Z B pc lv (.int x :: st) h ce sl := by
  intro p e R s m args below meth c g Qf hF hO H locs ls hH hS hl0
  exact lv_if_gt hO.1 hO.2.1 hd ht (fun q => kt q p e R s m args below meth c g Qf hF hO H locs ls hH hS hl0) (fun q => kf q p e R s m args below meth c g Qf hF hO H locs ls hH hS hl0)
theorem z_icmp_gt {x y : Int32} {off : Int} (tgt : Nat) (hd : decode (zbc B) pc = .ok (.if_icmp .gt off, 3)) (ht : (pc : Int) + off = (tgt : Int)) (kt : y < x → Z B tgt lv st h ce sl) (kf : ¬ y < x → Z B (pc + 3) lv st h ce sl) : Z B pc lv (.int y :: .int x :: st) h ce sl := by
  intro p e R s m args below meth c g Qf hF hO H locs ls hH hS hl0
  exact lv_icmp_gt hO.1 hO.2.1 hd ht (fun q => kt q p e R s m args below meth c g Qf hF hO H locs ls hH hS hl0) (fun q => kf q p e R s m args below meth c g Qf hF hO H locs ls hH hS hl0)
theorem z_if_le {x : Int32} {off : Int} (tgt : Nat) (hd : decode (zbc B) pc = .ok (.ifCond .le off, 3)) (ht : (pc : Int) + off = (tgt : Int)) (kt : x ≤ 0 → Z B tgt lv st h ce sl) (kf : ¬ x ≤ 0 → Z B (pc + 3) lv st h ce sl) : Z B pc lv (.int x :: st) h ce sl := by
  intro p e R s m args below meth c g Qf hF hO H locs ls hH hS hl0
  exact lv_if_le hO.1 hO.2.1 hd ht (fun q => kt q p e R s m args below meth c g Qf hF hO H locs ls hH hS hl0) (fun q => kf q p e R s m args below meth c g Qf hF hO H locs ls hH hS hl0)
theorem z_icmp_le {x y : Int32} {off : Int} (tgt : Nat) (hd : decode (zbc B) pc = .ok (.if_icmp .le off, 3)) (ht : (pc : Int) + off = (tgt : Int)) (kt : x ≤ y → Z B tgt lv st h ce sl) (kf : ¬ x ≤ y → Z B (pc + 3) lv st h ce sl) : Z B pc lv (.int y :: .int x :: st) h ce sl := by
  intro p e R s m args below meth c g Qf hF hO H locs ls hH hS hl0
  exact lv_icmp_le hO.1 hO.2.1 hd ht (fun q => kt q p e R s m args below meth c g Qf hF hO H locs ls hH hS hl0) (fun q => kf q p e R s m args below meth c g Qf hF hO H locs ls hH hS hl0)
theorem z_goto {off : Int} (tgt : Nat) (hd : decode (zbc B) pc = .ok (.goto off, 3)) (ht : (pc : Int) + off = (tgt : Int)) (k : Z B (tgt) lv (st) h ce sl) : Z B pc lv (st) h ce sl := by
  intro p e R s m args below meth c g Qf hF hO H locs ls hH hS hl0
  exact lv_goto hO.1 hO.2.1 hd ht (k p e R s m args below meth c g Qf hF hO H locs ls hH hS hl0)
theorem z_ifnonnull {off : Int} {x : Nat} (tgt : Nat) (hd : decode (zbc B) pc = .ok (.ifnonnull off, 3)) (ht : (pc : Int) + off = (tgt : Int)) (k : Z B (tgt) lv (st) h ce sl) : Z B pc lv (.ref x :: st) h ce sl := by
  intro p e R s m args below meth c g Qf hF hO H locs ls hH hS hl0
  exact lv_ifnonnull hO.1 hO.2.1 hd ht (k p e R s m args below meth c g Qf hF hO H locs ls hH hS hl0)
theorem z_ifnull {off : Int} {x : Nat} (hd : decode (zbc B) pc = .ok (.ifnull off, 3)) (k : Z B (pc + 3) lv (st) h ce sl) : Z B pc lv (.ref x :: st) h ce sl := by
  intro p e R s m args below meth c g Qf hF hO H locs ls hH hS hl0
  exact lv_ifnull hO.1 hO.2.1 hd (k p e R s m args below meth c g Qf hF hO H locs ls hH hS hl0)
theorem z_ifnullN {off : Int} (tgt : Nat) (hd : decode (zbc B) pc = .ok (.ifnull off, 3)) (ht : (pc : Int) + off = (tgt : Int)) (k : Z B (tgt) lv (st) h ce sl) : Z B pc lv (.null :: st) h ce sl := by
  intro p e R s m args below meth c g Qf hF hO H locs ls hH hS hl0
  exact lv_ifnullN hO.1 hO.2.1 hd ht (k p e R s m args below meth c g Qf hF hO H locs ls hH hS hl0)
theorem z_ifnonnullN {off : Int} (hd : decode (zbc B) pc = .ok (.ifnonnull off, 3)) (k : Z B (pc + 3) lv (st) h ce sl) : Z B pc lv (.null :: st) h ce sl := by
  intro p e R s m args below meth c g Qf hF hO H locs ls hH hS hl0
  exact lv_ifnonnullN hO.1 hO.2.1 hd (k p e R s m args below meth c g Qf hF hO H locs ls hH hS hl0)
theorem z_lookup {dflt : Int} {ps : Array (Int × Int)} {len : Nat} {x : Int32} {off : Int} (tgt : Nat) (hd : decode (zbc B) pc = .ok (.lookupswitch dflt ps, len)) (hp : (ps.toList.zip (ps.toList.drop 1)).all (fun (a, next) => a.1 < next.1) = true) (ho : Op.lookupswitch.offset ps.toList dflt x.toInt = off) (ht : (pc : Int) + off = (tgt : Int)) (k : Z B (tgt) lv (st) h ce sl) : Z B pc lv (.int x :: st) h ce sl := by
  intro p e R s m args below meth c g Qf hF hO H locs ls hH hS hl0
  exact lv_lookup hO.1 hO.2.1 hd hp ho ht (k p e R s m args below meth c g Qf hF hO H locs ls hH hS hl0)
theorem z_tableOut {dflt lo hi : Int} {offs : Array Int} {len : Nat} {x : Int32} (tgt : Nat) (hd : decode (zbc B) pc = .ok (.tableswitch dflt lo hi offs, len)) (h1 : x.toInt < lo ∨ hi < x.toInt) (ht : (pc : Int) + dflt = (tgt : Int)) (k : Z B (tgt) lv (st) h ce sl) : Z B pc lv (.int x :: st) h ce sl := by
  intro p e R s m args below meth c g Qf hF hO H locs ls hH hS hl0
  exact lv_tableOut hO.1 hO.2.1 hd h1 ht (k p e R s m args below meth c g Qf hF hO H locs ls hH hS hl0)
theorem z_tableIn {dflt lo hi : Int} {offs : Array Int} {len : Nat} {x : Int32} {off : Int} (tgt : Nat) (hd : decode (zbc B) pc = .ok (.tableswitch dflt lo hi offs, len)) (h1 : ¬ x.toInt < lo) (h2 : ¬ hi < x.toInt) (ho : offs[(x.toInt - lo).toNat]? = some off) (ht : (pc : Int) + off = (tgt : Int)) (k : Z B (tgt) lv (st) h ce sl) : Z B pc lv (.int x :: st) h ce sl := by
  intro p e R s m args below meth c g Qf hF hO H locs ls hH hS hl0
  exact lv_tableIn hO.1 hO.2.1 hd h1 h2 ho ht (k p e R s m args below meth c g Qf hF hO H locs ls hH hS hl0)
theorem z_topi {x : Int32} (k : ∀ y : Int32, y = x → Z B pc lv (.int y :: st) h ce sl) : Z B pc lv (.int x :: st) h ce sl := k x rfl
theorem z_topl {x : Int64} (k : ∀ y : Int64, y = x → Z B pc lv (.long y :: st) h ce sl) : Z B pc lv (.long x :: st) h ce sl := k x rfl
theorem z_eq {st' : List Value} {h' : zH} (h1 : st = st') (h2 : h = h') (k : Z B pc lv st' h' ce sl) : Z B pc lv st h ce sl := by subst h1; subst h2; exact k
end ZI

/-! arrays, fields, calls, answers -/
theorem zO.K {g : zG} {s : State} {h : zH} {H : Heap} (hK : zK g s) (hO : zO g s h H) {k : Nat} {ty : FieldType} {x : vp_A} (he : h[k]? = some (.inl (ty, x))) : va_K g.2.1 vwCl [(zkap g ty, ty)] s := by
  refine ⟨hK.1.1, fun i q hi => ?_⟩
  have hz : i < 1 := (List.getElem?_eq_some_iff.mp hi).1
  rw [show i = 0 by omega] at hi
  cases hi
  exact hO.2.2.2 k ty x he
/-- a cell anew -/
theorem zO.set {g : zG} {s : State} {h : zH} {H H1 : Heap} {q : Nat} {e0 e1 : zE} (hO : zO g s h H) (he : h[q]? = some e0) (ht : ∀ ty x, e1 = .inl (ty, x) → ∃ x0, e0 = .inl (ty, x0)) (hz : H1.size = H.size) (ha : va_at g.2.1 vwCl (za g q, zc g e1) H1) (oq : ∀ a : Nat, a ≠ za g q → H1[a]? = H[a]?) : zO g s (h.set q e1) H1 := by
  obtain ⟨h1, h2, h3, h4⟩ := hO
  refine ⟨by rw [← zw_set]; exact h1.set (zD h3) (zw_get he) ha oq, by rw [hz, h2, List.length_set], by rw [List.length_set]; exact h3, fun k ty x hk => ?_⟩
  by_cases hkq : q = k
  · subst hkq
    rw [List.getElem?_set_self (List.getElem?_eq_some_iff.mp he).1] at hk
    obtain ⟨x0, hx0⟩ := ht ty x (Option.some.inj hk)
    subst hx0
    exact h4 _ ty x0 he
  · rw [List.getElem?_set_ne hkq] at hk
    exact h4 k ty x hk
theorem zA_at {g : zG} {s : State} {h : zH} {H : Heap} {q : Nat} {e0 : zE} (hO : zO g s h H) (he : h[q]? = some e0) : zA g (za g q) := by
  have hlt := (List.getElem?_eq_some_iff.mp he).1
  show zbase g ≤ za g q
  rw [za_lt (Nat.lt_of_lt_of_le hlt hO.2.2.1)]
  omega
section ZA
variable {B : zB} {pc : Nat} {lv lv' : zL} {st : List Value} {h : zH} {ce sl : Nat}
theorem z_alen {q : Nat} {ty : FieldType} {x : vp_A} (v : Int32) (hd : decode (zbc B) pc = .ok (.arraylength, 1)) (he : h[q]? = some (.inl (ty, x))) (hv : Int32.ofNat x.1 = v) (k : Z B (pc + 1) lv (.int v :: st) h ce sl) : Z B pc lv (.ref q :: st) h ce sl := by
  intro p e R s m args below meth c g Qf hF hO H locs ls hH hS hl0
  exact va_alen hO.1 hO.2.1 (hH.K hO.2.2.2.2.2.2.2.2.2.2.2.2.1 he) hH.1 q 0 (zw_get he) rfl hv hd (k p e R s m args below meth c g Qf hF hO H locs ls hH hS hl0)

theorem z_iald {q n : Nat} {f : Nat → Int32} {i : Int32} (hd : decode (zbc B) pc = .ok (.iaload, 1)) (he : h[q]? = some (.inl (.int, n, .inl f))) (hin : vp_in i n) (k : Z B (pc + 1) lv (.int (f i.toNatClampNeg) :: st) h ce sl) : Z B pc lv (.int i :: .ref q :: st) h ce sl := by
  intro p e R s m args below meth c g Qf hF hO H locs ls hH hS hl0
  exact va_iald hO.1 hO.2.1 (hH.K hO.2.2.2.2.2.2.2.2.2.2.2.2.1 he) hH.1 q 0 (zw_get he) rfl hin hd (k p e R s m args below meth c g Qf hF hO H locs ls hH hS hl0)
theorem z_bald {q n : Nat} {f : Nat → Int32} {i : Int32} (hd : decode (zbc B) pc = .ok (.baload, 1)) (he : h[q]? = some (.inl (.byte, n, .inl f))) (hin : vp_in i n) (k : Z B (pc + 1) lv (.int (f i.toNatClampNeg) :: st) h ce sl) : Z B pc lv (.int i :: .ref q :: st) h ce sl := by
  intro p e R s m args below meth c g Qf hF hO H locs ls hH hS hl0
  exact va_bald hO.1 hO.2.1 (hH.K hO.2.2.2.2.2.2.2.2.2.2.2.2.1 he) hH.1 q 0 (zw_get he) rfl hin hd (k p e R s m args below meth c g Qf hF hO H locs ls hH hS hl0)
theorem z_zald {q n : Nat} {f : Nat → Int32} {i : Int32} (hd : decode (zbc B) pc = .ok (.baload, 1)) (he : h[q]? = some (.inl (.boolean, n, .inl f))) (hin : vp_in i n) (k : Z B (pc + 1) lv (.int (f i.toNatClampNeg) :: st) h ce sl) : Z B pc lv (.int i :: .ref q :: st) h ce sl := by
  intro p e R s m args below meth c g Qf hF hO H locs ls hH hS hl0
  exact va_zald hO.1 hO.2.1 (hH.K hO.2.2.2.2.2.2.2.2.2.2.2.2.1 he) hH.1 q 0 (zw_get he) rfl hin hd (k p e R s m args below meth c g Qf hF hO H locs ls hH hS hl0)
theorem z_cald {q n : Nat} {f : Nat → Int32} {i : Int32} (hd : decode (zbc B) pc = .ok (.caload, 1)) (he : h[q]? = some (.inl (.char, n, .inl f))) (hin : vp_in i n) (k : Z B (pc + 1) lv (.int (f i.toNatClampNeg) :: st) h ce sl) : Z B pc lv (.int i :: .ref q :: st) h ce sl := by
  intro p e R s m args below meth c g Qf hF hO H locs ls hH hS hl0
  exact va_cald hO.1 hO.2.1 (hH.K hO.2.2.2.2.2.2.2.2.2.2.2.2.1 he) hH.1 q 0 (zw_get he) rfl hin hd (k p e R s m args below meth c g Qf hF hO H locs ls hH hS hl0)
theorem z_sald {q n : Nat} {f : Nat → Int32} {i : Int32} (hd : decode (zbc B) pc = .ok (.saload, 1)) (he : h[q]? = some (.inl (.short, n, .inl f))) (hin : vp_in i n) (k : Z B (pc + 1) lv (.int (f i.toNatClampNeg) :: st) h ce sl) : Z B pc lv (.int i :: .ref q :: st) h ce sl := by
  intro p e R s m args below meth c g Qf hF hO H locs ls hH hS hl0
  exact va_sald hO.1 hO.2.1 (hH.K hO.2.2.2.2.2.2.2.2.2.2.2.2.1 he) hH.1 q 0 (zw_get he) rfl hin hd (k p e R s m args below meth c g Qf hF hO H locs ls hH hS hl0)
theorem z_lald {q n : Nat} {f : Nat → Int64} {i : Int32} (hd : decode (zbc B) pc = .ok (.laload, 1)) (he : h[q]? = some (.inl (.long, n, .inr (.inl f)))) (hin : vp_in i n) (k : Z B (pc + 1) lv (.long (f i.toNatClampNeg) :: st) h ce sl) : Z B pc lv (.int i :: .ref q :: st) h ce sl := by
  intro p e R s m args below meth c g Qf hF hO H locs ls hH hS hl0
  exact va_lald hO.1 hO.2.1 (hH.K hO.2.2.2.2.2.2.2.2.2.2.2.2.1 he) hH.1 q 0 (zw_get he) rfl hin hd (k p e R s m args below meth c g Qf hF hO H locs ls hH hS hl0)
theorem z_iast {q n : Nat} {f : Nat → Int32} {i x : Int32} (hd : decode (zbc B) pc = .ok (.iastore, 1)) (he : h[q]? = some (.inl (.int, n, .inl f))) (hin : vp_in i n) (k : Z B (pc + 1) lv st (h.set q (.inl (.int, n, .inl (upd f i.toNatClampNeg x)))) ce sl) : Z B pc lv (.int x :: .int i :: .ref q :: st) h ce sl := by
  intro p e R s m args below meth c g Qf hF hO H locs ls hH hS hl0
  have hK1 := hH.K hO.2.2.2.2.2.2.2.2.2.2.2.2.1 he
  refine W.iast hO.1 hO.2.1 (hH.1 q _ (zw_get he)) ((hK1.2 0 _ rfl).1 n (fun j => .int (f j))) (fun q => by cases q) (by show ¬ (i < 0 ∨ (arrV _ _ _).slots.size ≤ _); rw [arrV_size]; exact hin) rfl rfl hd fun H1 e1 z oq => ?_
  refine k p e R s m args below meth c g Qf hF hO H1 _ ls (hH.set he (fun ty x0 h0 => ?_) z ?_ oq) (hS.put z oq (zA_at hH he)) hl0
  · cases h0
    exact ⟨_, rfl⟩
  · show H1[za g q]? = some (vp_cell _ _)
    rw [e1]
    show some ((vp_cell _ (n, .inl f)).setSlot _ _) = some (vp_cell _ (n, .inl _))
    rw [vp_cell_i, vp_cell_i, arrV_store]
    congr 2
    funext j
    by_cases hq : j = i.toNatClampNeg
    · subst hq
      simp [updV, upd, vp_nar]
      try rfl
    · simp [updV, upd, hq]
theorem z_bast {q n : Nat} {f : Nat → Int32} {i x : Int32} (hd : decode (zbc B) pc = .ok (.bastore, 1)) (he : h[q]? = some (.inl (.byte, n, .inl f))) (hin : vp_in i n) (k : Z B (pc + 1) lv st (h.set q (.inl (.byte, n, .inl (upd f i.toNatClampNeg (vp_nar .byte x))))) ce sl) : Z B pc lv (.int x :: .int i :: .ref q :: st) h ce sl := by
  intro p e R s m args below meth c g Qf hF hO H locs ls hH hS hl0
  have hK1 := hH.K hO.2.2.2.2.2.2.2.2.2.2.2.2.1 he
  refine W.bast hO.1 hO.2.1 (hH.1 q _ (zw_get he)) ((hK1.2 0 _ rfl).1 n (fun j => .int (f j))) (fun q => by cases q) (by show ¬ (i < 0 ∨ (arrV _ _ _).slots.size ≤ _); rw [arrV_size]; exact hin) rfl rfl hd fun H1 e1 z oq => ?_
  refine k p e R s m args below meth c g Qf hF hO H1 _ ls (hH.set he (fun ty x0 h0 => ?_) z ?_ oq) (hS.put z oq (zA_at hH he)) hl0
  · cases h0
    exact ⟨_, rfl⟩
  · show H1[za g q]? = some (vp_cell _ _)
    rw [e1]
    show some ((vp_cell _ (n, .inl f)).setSlot _ _) = some (vp_cell _ (n, .inl _))
    rw [vp_cell_i, vp_cell_i, arrV_store]
    congr 2
    funext j
    by_cases hq : j = i.toNatClampNeg
    · subst hq
      simp [updV, upd, vp_nar]
      try rfl
    · simp [updV, upd, hq]
theorem z_zast {q n : Nat} {f : Nat → Int32} {i x : Int32} (hd : decode (zbc B) pc = .ok (.bastore, 1)) (he : h[q]? = some (.inl (.boolean, n, .inl f))) (hin : vp_in i n) (k : Z B (pc + 1) lv st (h.set q (.inl (.boolean, n, .inl (upd f i.toNatClampNeg (vp_nar .boolean x))))) ce sl) : Z B pc lv (.int x :: .int i :: .ref q :: st) h ce sl := by
  intro p e R s m args below meth c g Qf hF hO H locs ls hH hS hl0
  have hK1 := hH.K hO.2.2.2.2.2.2.2.2.2.2.2.2.1 he
  refine W.zast hO.1 hO.2.1 (hH.1 q _ (zw_get he)) ((hK1.2 0 _ rfl).1 n (fun j => .int (f j))) (fun q => by cases q) (by show ¬ (i < 0 ∨ (arrV _ _ _).slots.size ≤ _); rw [arrV_size]; exact hin) rfl rfl hd fun H1 e1 z oq => ?_
  refine k p e R s m args below meth c g Qf hF hO H1 _ ls (hH.set he (fun ty x0 h0 => ?_) z ?_ oq) (hS.put z oq (zA_at hH he)) hl0
  · cases h0
    exact ⟨_, rfl⟩
  · show H1[za g q]? = some (vp_cell _ _)
    rw [e1]
    show some ((vp_cell _ (n, .inl f)).setSlot _ _) = some (vp_cell _ (n, .inl _))
    rw [vp_cell_i, vp_cell_i, arrV_store]
    congr 2
    funext j
    by_cases hq : j = i.toNatClampNeg
    · subst hq
      simp [updV, upd, vp_nar]
      try rfl
    · simp [updV, upd, hq]
theorem z_cast {q n : Nat} {f : Nat → Int32} {i x : Int32} (hd : decode (zbc B) pc = .ok (.castore, 1)) (he : h[q]? = some (.inl (.char, n, .inl f))) (hin : vp_in i n) (k : Z B (pc + 1) lv st (h.set q (.inl (.char, n, .inl (upd f i.toNatClampNeg (vp_nar .char x))))) ce sl) : Z B pc lv (.int x :: .int i :: .ref q :: st) h ce sl := by
  intro p e R s m args below meth c g Qf hF hO H locs ls hH hS hl0
  have hK1 := hH.K hO.2.2.2.2.2.2.2.2.2.2.2.2.1 he
  refine W.cast hO.1 hO.2.1 (hH.1 q _ (zw_get he)) ((hK1.2 0 _ rfl).1 n (fun j => .int (f j))) (fun q => by cases q) (by show ¬ (i < 0 ∨ (arrV _ _ _).slots.size ≤ _); rw [arrV_size]; exact hin) rfl rfl hd fun H1 e1 z oq => ?_
  refine k p e R s m args below meth c g Qf hF hO H1 _ ls (hH.set he (fun ty x0 h0 => ?_) z ?_ oq) (hS.put z oq (zA_at hH he)) hl0
  · cases h0
    exact ⟨_, rfl⟩
  · show H1[za g q]? = some (vp_cell _ _)
    rw [e1]
    show some ((vp_cell _ (n, .inl f)).setSlot _ _) = some (vp_cell _ (n, .inl _))
    rw [vp_cell_i, vp_cell_i, arrV_store]
    congr 2
    funext j
    by_cases hq : j = i.toNatClampNeg
    · subst hq
      simp [updV, upd, vp_nar]
      try rfl
    · simp [updV, upd, hq]
theorem z_last {q n : Nat} {f : Nat → Int64} {i : Int32} {x : Int64} (hd : decode (zbc B) pc = .ok (.lastore, 1)) (he : h[q]? = some (.inl (.long, n, .inr (.inl f)))) (hin : vp_in i n) (k : Z B (pc + 1) lv st (h.set q (.inl (.long, n, .inr (.inl (fun j => if j = i.toNatClampNeg then x else f j))))) ce sl) : Z B pc lv (.long x :: .int i :: .ref q :: st) h ce sl := by
  intro p e R s m args below meth c g Qf hF hO H locs ls hH hS hl0
  have hK1 := hH.K hO.2.2.2.2.2.2.2.2.2.2.2.2.1 he
  refine W.last hO.1 hO.2.1 (hH.1 q _ (zw_get he)) ((hK1.2 0 _ rfl).1 n (fun j => .long (f j))) (fun q => by cases q) (by show ¬ (i < 0 ∨ (arrV _ _ _).slots.size ≤ _); rw [arrV_size]; exact hin) rfl rfl hd fun H1 e1 z oq => ?_
  refine k p e R s m args below meth c g Qf hF hO H1 _ ls (hH.set he (fun ty x0 h0 => ?_) z ?_ oq) (hS.put z oq (zA_at hH he)) hl0
  · cases h0
    exact ⟨_, rfl⟩
  · show H1[za g q]? = some (vp_cell _ _)
    rw [e1]
    show some ((vp_cell _ (n, .inr (.inl f))).setSlot _ _) = some (vp_cell _ (n, .inr (.inl _)))
    rw [vp_cell_l, vp_cell_l, arrV_store]
    congr 2
    funext j
    by_cases hq : j = i.toNatClampNeg
    · subst hq
      simp [updV]
    · simp [updV, hq]
end ZA
/-! calls -/
theorem zPz_blind (g : zG) (av : List Value) (h : zH) : FrameBlind (zPz g av h) := fun a U gg mk q =>
  ⟨q.1, zK.same (u := U) (U := U.calling gg mk a) rfl rfl q.2.1, zO.moved (u := U) (U := U.calling gg mk a) (Vm.Alike.refl U.vm) q.2.2⟩
theorem zPz_pre {g : zG} {s : State} {h : zH} {H : Heap} {locs : List Loc} (av : List Value) (hK : zK g s) (hO : zO g s h H) (hS : va_S (zA g) s.heap H locs) : ∀ U : State, U.heap = H → s.WarmedH U.vm → zPz g av h (av.map (zv g)).toArray U := fun U hU hW =>
  ⟨rfl, hK.moved hW (by rw [hU]; exact ⟨hS.1, hS.2.1, fun _ h => by cases h⟩), by rw [hU]; exact hO.moved hW.alike⟩
theorem z_run {p : Program} {e : Env} {R : Room} {s : State} {m : MethodId} {args : Array Value} {below : List Frame} {meth : Method} {c : Code} {g : zG} {Qf : State → Prop} {H : Heap} {locs : List Loc} {ce sl mc ms pc : Nat} {ls : Array Slot} {st0 rest : List Value} {Q : Option Value → zH → Prop} {a : Array Value}
    (hr : va_Run p g.1 e R s m args below meth c H locs ce sl mc ms (F0 m pc ls st0) rest (zQz g Q a) (zA g)) (hS : va_S (zA g) s.heap H locs)
    (kk : ∀ (r : Option Value) (h1 : zH) (H1 : Heap) (locs1 : List Loc), Q r h1 → zO g s h1 H1 → va_S (zA g) s.heap H1 locs1 → W p g.1 e R s m args below meth c H1 locs1 (ce + mc) (sl + ms) Qf (F0 m (pc + 3) ls ((r.map (zv g)).toList ++ rest))) : W p g.1 e R s m args below meth c H locs ce sl Qf (F0 m pc ls st0) := by
  intro T hT X
  obtain ⟨v, st₀, t, T', L, h0, X', hL, e1, e2, ⟨⟨r, h1, hv, hq, hO⟩, hz, hk⟩, st⟩ := hr T hT X
  cases hv
  rw [h0] at hz hk
  have hal : s.vm.Alike t.vm := by rw [← e2]; exact X'.warmed.alike
  obtain ⟨t2, a1, b1⟩ := kk r h1 T'.heap (locs ++ L) hq (by rw [e1]; exact hO.moved hal.symm)
    ⟨Nat.le_trans hS.1 (by rw [e1]; exact hz), fun q h1 h2 => by rw [e1, hk q (Nat.lt_of_lt_of_le h1 hS.1) h2]; exact hS.2.1 q h1 h2, fun q hq => by
      rcases List.mem_append.mp hq with h | h
      · exact hS.2.2 q h
      · exact hL q h⟩ T' rfl X'
  exact ⟨t2, st t2 a1, b1⟩
theorem z_ret_list (g : zG) (r : Option Value) (st : List Value) : (r.map (zv g)).toList ++ st.map (zv g) = (r.toList ++ st).map (zv g) := by cases r <;> simp
theorem z_cat (g : zG) (st : List Value) : ((st.map (zv g)).map fun v => v.category) = st.map fun v => v.category := by
  simp [Function.comp_def, zv_cat]
/-- what a call of Mj, at the entry idx of own's pool, needs of the tables, whatever the kind -/
def zCall (own : String) (idx : Nat) (Mj : zM) (n : Nat) : Prop := zcw Mj ∈ zT ∧ Cond.initialized (zy Mj).cls ∈ zT ∧ ((zy Mj).cls ≠ "java/lang/invoke/MethodHandle" ∧ (zy Mj).cls ≠ "java/lang/invoke/VarHandle" ∧ (parseMethodDescriptor (zy Mj).desc).map (fun d => d.parameters.length) = some n) ∧ zmL Mj ≤ 41 ∧ (Cond.methodLink own idx (zy Mj) ∈ zT ∨ ∃ host, Cond.methodLinkNest own idx (zy Mj) host ∈ zNW)
def zCallS (own : String) (idx : Nat) (Mj : zM) (n : Nat) : Prop := zCall own idx Mj n ∧ Cond.static (zy Mj) ∈ zT
def zCallV (own : String) (idx : Nat) (Mj : zM) (n : Nat) : Prop := zCall own idx Mj n ∧ Cond.instanceMethod (zy Mj) ∈ zT ∧ Cond.selects (zy Mj).cls (zy Mj) (zy Mj) ∈ zT
def zCallI (own : String) (idx : Nat) (Mj : zM) (n : Nat) : Prop := zCall own idx Mj n ∧ Cond.instanceMethod (zy Mj) ∈ zT ∧ (zy Mj).name = "<init>" ∧ zrt Mj = none
theorem zG1 {w : Cond} (h : w ∈ zT) : w ∈ zT ∧ ((w.onTables && w.keeps) = true ∨ ∃ ty, w = .arrayClass ty) := ⟨h, good_of_word (zgood h)⟩
theorem zGi {M : zM} (h : zcw M ∈ zT) : GoodIn zT (zws M) := fun w hw => by
  rcases List.mem_cons.mp hw with rfl | hw
  · exact zG1 h
  · exact zG1 hw
theorem z_fit {D : Nat} {Mj : zM} {R : Room} {d mc ms : Nat} (h1 : D ≤ R.frames) (h2 : 60 * D ≤ R.locals) (hd : d + 1 ≤ D) (hm : zmL Mj ≤ 41) : (zrm d mc ms).frames + 1 ≤ R.frames ∧ 8 + (zmL Mj + 11) + (zrm d mc ms).locals ≤ R.locals := by
  refine ⟨Nat.le_trans hd h1, ?_⟩
  show 8 + (zmL Mj + 11) + 60 * d ≤ R.locals
  omega
section ZC
variable {B : zB} {pc : Nat} {lv : zL} {st : List Value} {h : zH} {ce sl : Nat}
theorem z_callS {Mj : zM} {d mc ms idx n : Nat} {Q : Option Value → zH → Prop} (av : List Value) (hw : zCallS (zy (zbM B)).cls idx Mj n) (hE : Ev Mj d mc ms av h Q) (hd : decode (zbc B) pc = .ok (.invokestatic idx, 3)) (hn : av.length = n) (hst : (st.map fun v => v.category).sum ≤ 8) (hD : d + 1 ≤ zbD B) (hc : ce + mc ≤ B.2.2.1) (hs : sl + ms ≤ B.2.2.2.1)
    (k : ∀ (r : Option Value) (h1 : zH), Q r h1 → Z B (pc + 3) lv (r.toList ++ st) h1 (ce + mc) (sl + ms)) : Z B pc lv (av.reverse ++ st) h ce sl := by
  intro p e R s m args below meth c g Qf hF hO H locs ls hH hS hl0
  obtain ⟨hx, hcd, hml, hown, hts, -, -, -, hf1, hf2, hf3, hf4, hK, -⟩ := id hO
  obtain ⟨⟨w1, w2, hyd, hm, hl⟩, w3⟩ := hw
  rcases hl with hl | ⟨host, hl⟩
  · have hG : GoodIn zT (va_wsS (zy (zbM B)).cls idx (zy Mj) (zws Mj)) := fun w hw => by
      rcases List.mem_append.mp hw with hw | hw
      · rcases List.mem_cons.mp hw with rfl | hw
        · exact zG1 hl
        · rcases List.mem_cons.mp hw with rfl | hw
          · exact zG1 w3
          · rw [List.mem_singleton.mp hw]; exact zG1 w2
      · exact zGi w1 w hw
    refine z_run (va_runS (As := av.map (zv g)) (rest := st.map (zv g)) ⟨hx, hcd, hml, hown, hts⟩ (hE g) (va_cwS n hts hG rfl rfl rfl hyd (z_fit hf1 hf2 hD hm)) ⟨zPz_blind g av h, zPz_pre av hK hH hS⟩ rfl (by rw [List.length_map]; exact hn) hl0.1 (by simp [zv_ref]) (lv_room (by rw [z_cat]; exact hst)) hd ⟨Nat.le_trans hc hf3, Nat.le_trans hs hf4⟩) hS fun r h1 H1 locs1 hq hO1 hS1 => ?_
    rw [z_ret_list]
    exact k r h1 hq p e R s m args below meth c g Qf hF hO H1 locs1 ls hO1 hS1 hl0
  · refine z_run (va_runSN (As := av.map (zv g)) (rest := st.map (zv g)) ⟨hx, hcd, hml, hown, hts⟩ (hE g) ⟨va_cnB n hts (zGi w1) rfl rfl rfl (hK.2.2.1 _ hl) (hts _ w2) hyd (z_fit hf1 hf2 hD hm), hts _ w3, trivial⟩ ⟨zPz_blind g av h, zPz_pre av hK hH hS⟩ rfl (by rw [List.length_map]; exact hn) hl0.1 (by simp [zv_ref]) (lv_room (by rw [z_cat]; exact hst)) hd ⟨Nat.le_trans hc hf3, Nat.le_trans hs hf4⟩) hS fun r h1 H1 locs1 hq hO1 hS1 => ?_
    rw [z_ret_list]
    exact k r h1 hq p e R s m args below meth c g Qf hF hO H1 locs1 ls hO1 hS1 hl0
theorem z_callV {Mj : zM} {d mc ms idx n q ci N : Nat} {T : u_T} {fs : List Value} {Q : Option Value → zH → Prop} (av : List Value) (hw : zCallV (zy (zbM B)).cls idx Mj n) (hE : Ev Mj d mc ms (.ref q :: av) h Q) (hci : vwCl[ci]? = some ((zy Mj).cls, T, N)) (hd : decode (zbc B) pc = .ok (.invokevirtual idx, 3)) (hq : h[q]? = some (.inr (ci, fs))) (hn : av.length = n) (hst : (st.map fun v => v.category).sum ≤ 8) (hD : d + 1 ≤ zbD B) (hc : ce + mc ≤ B.2.2.1) (hs : sl + ms ≤ B.2.2.2.1)
    (k : ∀ (r : Option Value) (h1 : zH), Q r h1 → Z B (pc + 3) lv (r.toList ++ st) h1 (ce + mc) (sl + ms)) : Z B pc lv (av.reverse ++ .ref q :: st) h ce sl := by
  intro p e R s m args below meth c g Qf hF hO H locs ls hH hS hl0
  obtain ⟨hx, hcd, hml, hown, hts, -, -, -, hf1, hf2, hf3, hf4, hK, -⟩ := id hO
  obtain ⟨⟨w1, w2, hyd, hm, hl⟩, w3, w4⟩ := hw
  have hr := va_recv hK.1 hH.1 hci (zw_get (g := g) hq)
  rcases hl with hl | ⟨host, hl⟩
  · have hG : GoodIn zT (wsV (zy (zbM B)).cls idx (zy Mj).cls (zy Mj) (zws Mj)) := fun w hw => by
      rcases List.mem_append.mp hw with hw | hw
      · rcases List.mem_cons.mp hw with rfl | hw
        · exact zG1 hl
        · rcases List.mem_cons.mp hw with rfl | hw
          · exact zG1 w3
          · rcases List.mem_cons.mp hw with rfl | hw
            · exact zG1 w4
            · rw [List.mem_singleton.mp hw]; exact zG1 w2
      · exact zGi w1 w hw
    refine z_run (va_runV (C := (zy Mj).cls) (b := za g q) (As := av.map (zv g)) (rest := st.map (zv g)) ⟨hx, hcd, hml, hown, hts⟩ (hE g) (cwV n hts hG rfl rfl rfl ⟨rfl, hyd⟩ (z_fit hf1 hf2 hD hm)) ⟨zPz_blind g _ h, hr, zPz_pre (.ref q :: av) hK hH hS⟩ rfl (by rw [List.length_map]; exact hn) hl0.1 (by simp [zv_ref]) (lv_room (by rw [z_cat]; exact hst)) hd ⟨Nat.le_trans hc hf3, Nat.le_trans hs hf4⟩) hS fun r h1 H1 locs1 hq hO1 hS1 => ?_
    rw [z_ret_list]
    exact k r h1 hq p e R s m args below meth c g Qf hF hO H1 locs1 ls hO1 hS1 hl0
  · refine z_run (va_runVN (C := (zy Mj).cls) (b := za g q) (As := av.map (zv g)) (rest := st.map (zv g)) ⟨hx, hcd, hml, hown, hts⟩ (hE g) ⟨va_cnB n hts (zGi w1) rfl rfl rfl (hK.2.2.1 _ hl) (hts _ w2) hyd (z_fit hf1 hf2 hD hm), hts _ w3, hts _ w4⟩ ⟨zPz_blind g _ h, hr, zPz_pre (.ref q :: av) hK hH hS⟩ rfl (by rw [List.length_map]; exact hn) hl0.1 (by simp [zv_ref]) (lv_room (by rw [z_cat]; exact hst)) hd ⟨Nat.le_trans hc hf3, Nat.le_trans hs hf4⟩) hS fun r h1 H1 locs1 hq hO1 hS1 => ?_
    rw [z_ret_list]
    exact k r h1 hq p e R s m args below meth c g Qf hF hO H1 locs1 ls hO1 hS1 hl0
theorem z_callI {Mj : zM} {d mc ms idx n q : Nat} {Q : Option Value → zH → Prop} (av : List Value) (hw : zCallI (zy (zbM B)).cls idx Mj n) (hE : Ev Mj d mc ms (.ref q :: av) h Q) (hd : decode (zbc B) pc = .ok (.invokespecial idx, 3)) (hn : av.length = n) (hst : (st.map fun v => v.category).sum ≤ 8) (hD : d + 1 ≤ zbD B) (hc : ce + mc ≤ B.2.2.1) (hs : sl + ms ≤ B.2.2.2.1)
    (k : ∀ (r : Option Value) (h1 : zH), Q r h1 → Z B (pc + 3) lv (r.toList ++ st) h1 (ce + mc) (sl + ms)) : Z B pc lv (av.reverse ++ .ref q :: st) h ce sl := by
  intro p e R s m args below meth c g Qf hF hO H locs ls hH hS hl0
  obtain ⟨hx, hcd, hml, hown, hts, -, -, -, hf1, hf2, hf3, hf4, hK, -⟩ := id hO
  obtain ⟨⟨w1, w2, hyd, hm, hl⟩, w3, hy1, hrt⟩ := hw
  have hcode : zws Mj = Cond.code (zy Mj) (zcc Mj) (zmL Mj) none :: zT := by rw [← hrt]; rfl
  rcases hl with hl | ⟨host, hl⟩
  · refine z_run (va_runI (b := za g q) (As := av.map (zv g)) (rest := st.map (zv g)) ⟨hx, hcd, hml, hown, hts⟩ (hE g) (cwI n hts (zGi w1) hcode rfl rfl (hts _ w2) (hts _ hl) (hts _ w3) hy1 hyd (z_fit hf1 hf2 hD hm)) ⟨zPz_blind g _ h, zPz_pre (.ref q :: av) hK hH hS⟩ rfl (by rw [List.length_map]; exact hn) hl0.1 (by simp [zv_ref]) (lv_room (by rw [z_cat]; exact hst)) hd ⟨Nat.le_trans hc hf3, Nat.le_trans hs hf4⟩) hS fun r h1 H1 locs1 hq hO1 hS1 => ?_
    rw [z_ret_list]
    exact k r h1 hq p e R s m args below meth c g Qf hF hO H1 locs1 ls hO1 hS1 hl0
  · refine z_run (va_runIN (b := za g q) (As := av.map (zv g)) (rest := st.map (zv g)) ⟨hx, hcd, hml, hown, hts⟩ (hE g) ⟨va_cnB n hts (zGi w1) hcode rfl rfl (hK.2.2.1 _ hl) (hts _ w2) hyd (z_fit hf1 hf2 hD hm), hy1, hts _ w3⟩ ⟨zPz_blind g _ h, zPz_pre (.ref q :: av) hK hH hS⟩ rfl (by rw [List.length_map]; exact hn) hl0.1 (by simp [zv_ref]) (lv_room (by rw [z_cat]; exact hst)) hd ⟨Nat.le_trans hc hf3, Nat.le_trans hs hf4⟩) hS fun r h1 H1 locs1 hq hO1 hS1 => ?_
    rw [z_ret_list]
    exact k r h1 hq p e R s m args below meth c g Qf hF hO H1 locs1 ls hO1 hS1 hl0
/-- Object's own constructor -/
theorem z_objInit {q idx : Nat} (hl : Cond.methodLink (zy (zbM B)).cls idx Lib.objectInit ∈ zT) (hi : Cond.instanceMethod Lib.objectInit ∈ zT) (hc : Cond.code Lib.objectInit ⟨#[0xb1]⟩ 1 none ∈ zT) (hd : decode (zbc B) pc = .ok (.invokespecial idx, 3)) (hst : (st.map fun v => v.category).sum ≤ 8) (hD : 1 ≤ zbD B) (k : Z B (pc + 3) lv st h ce sl) : Z B pc lv (.ref q :: st) h ce sl := by
  intro p e R s m args below meth c g Qf hF hO H locs ls hH hS hl0
  obtain ⟨hx, hcd, hml, hown, hts, -, -, -, hf1, hf2, hf3, hf4, hK, -⟩ := id hO
  refine W.objInit hx hcd hown (hts _ hl) (hts _ hi) (hts _ hc) rfl (hl0.1.trans hml.symm) rfl hd (Nat.le_trans hD hf1) ?_ (k p e R s m args below meth c g Qf hF hO H locs ls hH hS hl0)
  have h8 : 2 * (F0 m pc ls (st.map (zv g))).monitorRoom + ((st.map (zv g)).map fun v => v.category).sum ≤ 8 := lv_room (rest := st.map (zv g)) (by rw [z_cat]; exact hst)
  have h10 : 60 * 1 ≤ R.locals := Nat.le_trans (Nat.mul_le_mul_left 60 hD) hf2
  show 2 * 0 + ((st.map (zv g)).map fun v => v.category).sum + 12 ≤ R.locals
  have h11 : 2 * 0 + ((st.map (zv g)).map fun v => v.category).sum ≤ 8 := h8
  omega
end ZC
/-! answers, and the contract out of the frame -/
def zFm (Q : Option Value → zH → Prop) (mc ms : Nat) : zF := fun _ _ _ s _ args below _ _ g Qf => Qf = MQ below (zQz g Q) args s mc ms (zA g)
theorem zQz_of {g : zG} {Q : Option Value → zH → Prop} {s t : State} {args : Array Value} {h : zH} {H : Heap} {locs : List Loc} {r : Option Value} {v : Option Value} (hv : v = r.map (zv g)) (hq : Q r h) (hO : zO g s h H) (hS : va_S (zA g) s.heap H locs) (ht : t.heap = H) (hW : s.WarmedH t.vm) : zQz g Q args s (.returned v) t := by
  subst hv
  exact ⟨⟨r, h, rfl, hq, by rw [ht]; exact hO.moved hW.alike⟩, hS.F ht⟩
section ZR
variable {D mc ms : Nat} {M : zM} {Q : Option Value → zH → Prop} {pc : Nat} {lv : zL} {h : zH} {ce sl : Nat}
theorem z_iret {v : Int32} (hd : decode (zcc M) pc = .ok (.ireturn, 1)) (hr : zrt M = some .int) (hc : ce ≤ mc) (hs : sl ≤ ms) (hq : Q (some (.int v)) h) : Z (zFm Q mc ms, D, mc, ms, M) pc lv [.int v] h ce sl := by
  intro p e R s m args below meth c g Qf hF hO H locs ls hH hS hl0
  rw [show Qf = _ from hF]
  refine W.widen hc hs ?_
  have hlocks := hO.2.2.2.2.2.1
  exact W.iret hO.1 hO.2.1 (hO.2.2.2.2.2.2.1.trans hr) (fun t ht hW => zQz_of (r := some (.int v)) rfl hq hH hS ht hW) hS.2.2 hd
theorem z_zret {v : Int32} (hd : decode (zcc M) pc = .ok (.ireturn, 1)) (hr : zrt M = some .boolean) (hn : narrow .boolean (.int v) = .int v) (hc : ce ≤ mc) (hs : sl ≤ ms) (hq : Q (some (.int v)) h) : Z (zFm Q mc ms, D, mc, ms, M) pc lv [.int v] h ce sl := by
  intro p e R s m args below meth c g Qf hF hO H locs ls hH hS hl0
  rw [show Qf = _ from hF]
  refine W.widen hc hs ?_
  have hlocks := hO.2.2.2.2.2.1
  exact W.zret hO.1 hO.2.1 (hO.2.2.2.2.2.2.1.trans hr) hn (fun t ht hW => zQz_of (r := some (.int v)) rfl hq hH hS ht hW) hS.2.2 hd
theorem z_lret {v : Int64} (hd : decode (zcc M) pc = .ok (.lreturn, 1)) (hr : zrt M = some .long) (hc : ce ≤ mc) (hs : sl ≤ ms) (hq : Q (some (.long v)) h) : Z (zFm Q mc ms, D, mc, ms, M) pc lv [.long v] h ce sl := by
  intro p e R s m args below meth c g Qf hF hO H locs ls hH hS hl0
  rw [show Qf = _ from hF]
  refine W.widen hc hs ?_
  have hlocks := hO.2.2.2.2.2.1
  exact W.lret hO.1 hO.2.1 (hO.2.2.2.2.2.2.1.trans hr) (fun t ht hW => zQz_of (r := some (.long v)) rfl hq hH hS ht hW) hS.2.2 hd
theorem z_vret (hd : decode (zcc M) pc = .ok (.return_, 1)) (hr : zrt M = none) (hc : ce ≤ mc) (hs : sl ≤ ms) (hq : Q none h) : Z (zFm Q mc ms, D, mc, ms, M) pc lv [] h ce sl := by
  intro p e R s m args below meth c g Qf hF hO H locs ls hH hS hl0
  rw [show Qf = _ from hF]
  refine W.widen hc hs ?_
  have hlocks := hO.2.2.2.2.2.1
  exact W.vret hO.1 hO.2.1 (hO.2.2.2.2.2.2.1.trans hr) (fun t ht hW => zQz_of (r := none) rfl hq hH hS ht hW) hS.2.2 hd
end ZR
theorem zargs (g : zG) (vs : List Value) : ∀ i, lv_args i (vs.map (zv g)) = zloc g (lv_args i vs) := by
  induction vs with
  | nil => intro i; rfl
  | cons v vs ih =>
    intro i
    show (i, zv g v) :: lv_args (if (zv g v).category = 2 then i + 2 else i + 1) (vs.map (zv g)) = (i, zv g v) :: zloc g (lv_args _ vs)
    rw [zv_cat, ih]
theorem zlgsl (g : zG) (vs : List Value) : (lg_sl (vs.map (zv g))).length = (lg_sl vs).length := by
  induction vs with
  | nil => rfl
  | cons v vs ih =>
    simp only [lg_sl, List.map_cons, List.flatMap_cons, List.length_append, zv_cat] at ih ⊢
    rw [ih]
    split <;> rfl
theorem Ev.of {M : zM} {d mc ms : Nat} {av : List Value} {h : zH} {Q : Option Value → zH → Prop} (hy : plainName (zy M).cls = true) (hlen : (lg_sl av).length ≤ zmL M)
    (body : Z (zFm Q mc ms, d, mc, ms, M) 0 (lv_args 0 av) [] h 0 0) : Ev M d mc ms av h Q := by
  intro g
  refine Met.ofW (cc := zcc M) (maxL := zmL M) (ret := zrt M) hy rfl ?_
  intro p e s m args below meth c s₁ BL hml hv
  obtain ⟨rfl, hK, hO⟩ := hv
  have hl := lv_entry (av.map (zv g)) (n := zmL M) (by rw [zlgsl]; exact hlen)
  rw [lg_entry_eq]
  rw [zargs] at hl
  refine body p e _ s m _ below meth c g _ rfl ⟨BL.exec, BL.bytes, hml, findClass_of_methodNamed BL.named, fun w hw => atoms_spec (ws := zws M) BL.pre w (List.mem_cons_of_mem _ hw), BL.notSynchronized, BL.returns, fun hn => by rw [← hn]; exact (name_of_methodNamed BL.named BL.method).1, Nat.le_refl _, Nat.le_refl _, Nat.le_refl _, Nat.le_refl _, hK, ?_⟩ s.heap [] _ hO va_S.rf hl
  rw [hO.2.1]
  exact Nat.le_add_right _ _
/-! Math's min, max, abs of ints -/
section ZMa
variable {B : zB} {pc : Nat} {lv : zL} {st : List Value} {h : zH} {ce sl : Nat}
theorem z_mmax {idx : Nat} {x y : Int32} (hl : Cond.methodLink (zy (zbM B)).cls idx Lib.Math.max.name ∈ zT) (h1 : Cond.static Lib.Math.max.name ∈ zT) (h2 : Cond.initialized "java/lang/Math" ∈ zT) (h3 : Cond.code Lib.Math.max.name Lib.Math.max.code 2 (some .int) ∈ zT) (hd : decode (zbc B) pc = .ok (.invokestatic idx, 3)) (hst : (st.map fun v => v.category).sum ≤ 8) (hD : 1 ≤ zbD B) (hc : ce ≤ B.2.2.1) (hs : sl ≤ B.2.2.2.1) (k : Z B (pc + 3) lv (.int (if x < y then y else x) :: st) h ce sl) : Z B pc lv (.int y :: .int x :: st) h ce sl := by
  intro p e R s m args below meth c g Qf hF hO H locs ls hH hS hl0
  obtain ⟨hx, hcd, hml, hown, hts, -, -, -, hf1, hf2, hf3, hf4, hK, -⟩ := id hO
  refine va_mmax hx hcd (hml.trans hl0.1.symm) hown (hts _ hl) (hts _ h1) (hts _ h2) (hts _ h3) (Nat.le_trans hD hf1) ?_ (Nat.le_trans hc hf3) (Nat.le_trans hs hf4) hd (k p e R s m args below meth c g Qf hF hO H locs ls hH hS hl0)
  rw [z_cat]
  omega
theorem z_mmin {idx : Nat} {x y : Int32} (hl : Cond.methodLink (zy (zbM B)).cls idx Lib.Math.min.name ∈ zT) (h1 : Cond.static Lib.Math.min.name ∈ zT) (h2 : Cond.initialized "java/lang/Math" ∈ zT) (h3 : Cond.code Lib.Math.min.name Lib.Math.min.code 2 (some .int) ∈ zT) (hd : decode (zbc B) pc = .ok (.invokestatic idx, 3)) (hst : (st.map fun v => v.category).sum ≤ 8) (hD : 1 ≤ zbD B) (hc : ce ≤ B.2.2.1) (hs : sl ≤ B.2.2.2.1) (k : Z B (pc + 3) lv (.int (if y < x then y else x) :: st) h ce sl) : Z B pc lv (.int y :: .int x :: st) h ce sl := by
  intro p e R s m args below meth c g Qf hF hO H locs ls hH hS hl0
  obtain ⟨hx, hcd, hml, hown, hts, -, -, -, hf1, hf2, hf3, hf4, hK, -⟩ := id hO
  refine va_mmin hx hcd (hml.trans hl0.1.symm) hown (hts _ hl) (hts _ h1) (hts _ h2) (hts _ h3) (Nat.le_trans hD hf1) ?_ (Nat.le_trans hc hf3) (Nat.le_trans hs hf4) hd (k p e R s m args below meth c g Qf hF hO H locs ls hH hS hl0)
  rw [z_cat]
  omega
theorem z_mabs {idx : Nat} {x : Int32} (hl : Cond.methodLink (zy (zbM B)).cls idx Lib.Math.abs.name ∈ zT) (h1 : Cond.static Lib.Math.abs.name ∈ zT) (h2 : Cond.initialized "java/lang/Math" ∈ zT) (h3 : Cond.code Lib.Math.abs.name Lib.Math.abs.code 1 (some .int) ∈ zT) (hd : decode (zbc B) pc = .ok (.invokestatic idx, 3)) (hst : (st.map fun v => v.category).sum ≤ 8) (hD : 1 ≤ zbD B) (hc : ce ≤ B.2.2.1) (hs : sl ≤ B.2.2.2.1) (k : Z B (pc + 3) lv (.int (if 0 ≤ x then x else 0 - x) :: st) h ce sl) : Z B pc lv (.int x :: st) h ce sl := by
  intro p e R s m args below meth c g Qf hF hO H locs ls hH hS hl0
  obtain ⟨hx, hcd, hml, hown, hts, -, -, -, hf1, hf2, hf3, hf4, hK, -⟩ := id hO
  refine va_mabs hx hcd (hml.trans hl0.1.symm) hown (hts _ hl) (hts _ h1) (hts _ h2) (hts _ h3) (Nat.le_trans hD hf1) ?_ (Nat.le_trans hc hf3) (Nat.le_trans hs hf4) hd (k p e R s m args below meth c g Qf hF hO H locs ls hH hS hl0)
  rw [z_cat]
  omega
end ZMa
section ZFi
variable {B : zB} {pc : Nat} {lv : zL} {st : List Value} {h : zH} {ce sl : Nat}
theorem z_get {q idx ci N : Nat} {C : String} {T : u_T} {fs : List Value} {v : Value} (k : Nat) (hc : vwCl[ci]? = some (C, T, N)) (hin : ∀ w ∈ u_ws C T N, w ∈ zT) (hk : k < N) (hl : Cond.fieldLink (zy (zbM B)).cls idx (T k).1 (T k).2.1 (T k).2.2.1 ∈ zT) (hd : decode (zbc B) pc = .ok (.getfield idx, 3)) (he : h[q]? = some (.inr (ci, fs))) (hv : fs[k]? = some v) (kk : Z B (pc + 3) lv (v :: st) h ce sl) : Z B pc lv (.ref q :: st) h ce sl := by
  intro p e R s m args below meth c g Qf hF hO H locs ls hH hS hl0
  obtain ⟨hx, hcd, hml, hown, hts, -, -, -, hf1, hf2, hf3, hf4, hK, -⟩ := id hO
  exact va_get (T := T) (N := N) (v := zv g v) hx hcd hts hin hown hK.1 hH.1 q (zw_get (g := g) he) hc k hk (hts _ hl) (fun _ h9 => h9) (by rw [List.getElem?_map, hv]; rfl) hd (kk p e R s m args below meth c g Qf hF hO H locs ls hH hS hl0)
theorem z_getN {q idx ci N : Nat} {C host : String} {T : u_T} {fs : List Value} {v : Value} (k : Nat) (hc : vwCl[ci]? = some (C, T, N)) (hin : ∀ w ∈ u_ws C T N, w ∈ zT) (hk : k < N) (hl : Cond.fieldLinkNest (zy (zbM B)).cls idx (T k).1 (T k).2.1 (T k).2.2.1 host ∈ zNW) (hd : decode (zbc B) pc = .ok (.getfield idx, 3)) (he : h[q]? = some (.inr (ci, fs))) (hv : fs[k]? = some v) (kk : Z B (pc + 3) lv (v :: st) h ce sl) : Z B pc lv (.ref q :: st) h ce sl := by
  intro p e R s m args below meth c g Qf hF hO H locs ls hH hS hl0
  obtain ⟨hx, hcd, hml, hown, hts, -, -, -, hf1, hf2, hf3, hf4, hK, -⟩ := id hO
  exact va_getN (T := T) (N := N) (v := zv g v) hx hcd hts hin hown hK.1 hH.1 q (zw_get (g := g) he) hc k hk (va_Nw.use rfl (hK.2.2.1 _ hl)) (fun _ h9 => h9) (by rw [List.getElem?_map, hv]; rfl) hd (kk p e R s m args below meth c g Qf hF hO H locs ls hH hS hl0)
/-- a class's field types and names -/
def zty (T : u_T) (N : Nat) (ty : Nat → FieldType) : Prop := (∀ k, k < N → parseFieldDescriptor (T k).2.2.1 = some (ty k)) ∧ (∀ a, a < N → ∀ b, b < N → a ≠ b → (T a).2.1 ≠ (T b).2.1)
theorem zput_at {g : zG} {H1 : Heap} {q ci N k : Nat} {C : String} {T : u_T} {fs : List Value} {v : Value} {cell : Cell} (hc : vwCl[ci]? = some (C, T, N)) (hap : ∀ x y, x < N → y < N → x ≠ y → (g.2.1.2 ci) x ≠ (g.2.1.2 ci) y) (hk : k < N) (hlen : k < fs.length) (e1 : H1[za g q]? = some (cell.setSlot ((g.2.1.2 ci) k) (zv g v))) (q2 : cell.cls = g.2.1.1 ci) (q3 : cell.vm = .none) (q4 : ∀ j, j < N → cell.slots[(g.2.1.2 ci) j]? = some (vp_V (fs.map (zv g)) j)) : va_at g.2.1 vwCl (za g q, zc g (.inr (ci, fs.set k v))) H1 := by
  refine ⟨_, hc, t_OB.to (V := updV (vp_V (fs.map (zv g))) k (zv g v)) ⟨_, e1, q2, q3, t_set q4 hap hk (zv g v)⟩ (fun j _ => ?_)⟩
  rw [vp_updV_set (by rw [List.length_map]; exact hlen)]
  show vp_V _ j = vp_V ((fs.set k v).map (zv g)) j
  rw [List.map_set]
theorem z_put {q idx ci N : Nat} {C : String} {T : u_T} {fs : List Value} {v : Value} {tyf : Nat → FieldType} (k : Nat) (hc : vwCl[ci]? = some (C, T, N)) (hin : ∀ w ∈ u_ws C T N, w ∈ zT) (hty : zty T N tyf) (hk : k < N) (hl : Cond.fieldLink (zy (zbM B)).cls idx (T k).1 (T k).2.1 (T k).2.2.1 ∈ zT) (hfin : (T k).2.2.2 = false) (hn : ∀ g, narrow (tyf k) (zv g v) = zv g v) (hfit : ∀ g, fits (tyf k) (zv g v) = true) (hlen : k < fs.length) (hd : decode (zbc B) pc = .ok (.putfield idx, 3)) (he : h[q]? = some (.inr (ci, fs))) (kk : Z B (pc + 3) lv st (h.set q (.inr (ci, fs.set k v))) ce sl) : Z B pc lv (v :: .ref q :: st) h ce sl := by
  intro p e R s m args below meth c g Qf hF hO H locs ls hH hS hl0
  obtain ⟨hx, hcd, hml, hown, hts, -, -, -, hf1, hf2, hf3, hf4, hK, -⟩ := id hO
  have hap := va_apart (own := (zy (zbM B)).cls) hts hin tyf hty.1 hty.2 hK.1 hc
  obtain ⟨r, h1, cell, q1, q2, q3, q4⟩ := hH.1 q _ (zw_get (g := g) he)
  have hr : r = (C, T, N) := Option.some.inj (h1.symm.trans hc)
  subst hr
  obtain ⟨hSl, hfc, kC, hkC, hkind⟩ := hK.1.1 ci _ hc
  obtain ⟨cf, kf, fi, f, hi, hsl⟩ := hSl k hk
  have hlay := hts _ (hin _ (u_in_lay hk))
  unfold u_lay at hlay
  rw [if_neg (by rw [hfin]; decide)] at hlay
  have hst := (u_facts hfc hkC (u_lays hts hin hk) hi).1
  have h6 := u_store hfc hkC hkind hlay hi (hty.1 k hk) (hn g) (hfit g)
  refine W.putK hx hcd (f := f) ⟨hown, hts _ hl, ⟨_, _, _, hi⟩, hst⟩ (by rw [q2]; exact h6) q1 q3 (by rw [hsl]; exact k2_hasslot (q4 k hk)) rfl rfl hd fun H' e1 e2 e3 => ?_
  rw [hsl] at e1 ⊢
  exact kk p e R s m args below meth c g Qf hF hO H' _ ls (hH.set he (fun ty x0 h0 => by cases h0) e2 (zput_at hc hap hk hlen e1 q2 q3 q4) e3) (hS.put e2 e3 (zA_at hH he)) hl0
theorem z_putN {q idx ci N : Nat} {C host : String} {T : u_T} {fs : List Value} {v : Value} {tyf : Nat → FieldType} (k : Nat) (hc : vwCl[ci]? = some (C, T, N)) (hin : ∀ w ∈ u_ws C T N, w ∈ zT) (hty : zty T N tyf) (hk : k < N) (hl : Cond.fieldLinkNest (zy (zbM B)).cls idx (T k).1 (T k).2.1 (T k).2.2.1 host ∈ zNW) (hfin : (T k).2.2.2 = false) (hn : ∀ g, narrow (tyf k) (zv g v) = zv g v) (hfit : ∀ g, fits (tyf k) (zv g v) = true) (hlen : k < fs.length) (hd : decode (zbc B) pc = .ok (.putfield idx, 3)) (he : h[q]? = some (.inr (ci, fs))) (kk : Z B (pc + 3) lv st (h.set q (.inr (ci, fs.set k v))) ce sl) : Z B pc lv (v :: .ref q :: st) h ce sl := by
  intro p e R s m args below meth c g Qf hF hO H locs ls hH hS hl0
  obtain ⟨hx, hcd, hml, hown, hts, -, -, -, hf1, hf2, hf3, hf4, hK, -⟩ := id hO
  have hap := va_apart (own := (zy (zbM B)).cls) hts hin tyf hty.1 hty.2 hK.1 hc
  obtain ⟨r, h1, cell, q1, q2, q3, q4⟩ := hH.1 q _ (zw_get (g := g) he)
  have hr : r = (C, T, N) := Option.some.inj (h1.symm.trans hc)
  subst hr
  obtain ⟨hSl, hfc, kC, hkC, hkind⟩ := hK.1.1 ci _ hc
  obtain ⟨cf, kf, fi, f, hi, hsl⟩ := hSl k hk
  have hlay := hts _ (hin _ (u_in_lay hk))
  unfold u_lay at hlay
  rw [if_neg (by rw [hfin]; decide)] at hlay
  have hst := (u_facts hfc hkC (u_lays hts hin hk) hi).1
  have h6 := u_store hfc hkC hkind hlay hi (hty.1 k hk) (hn g) (hfit g)
  refine va_WputK hx hcd (f := f) hown (va_Nw.use rfl (hK.2.2.1 _ hl)) hi hst (by rw [q2]; exact h6) q1 q3 (by rw [hsl]; exact k2_hasslot (q4 k hk)) rfl rfl hd fun H' e1 e2 e3 => ?_
  rw [hsl] at e1 ⊢
  exact kk p e R s m args below meth c g Qf hF hO H' _ ls (hH.set he (fun ty x0 h0 => by cases h0) e2 (zput_at hc hap hk hlen e1 q2 q3 q4) e3) (hS.put e2 e3 (zA_at hH he)) hl0
/-- a final field, in its class's constructor -/
theorem z_putF {q idx ci N : Nat} {C : String} {T : u_T} {fs : List Value} {v : Value} {tyf : Nat → FieldType} (k : Nat) (hc : vwCl[ci]? = some (C, T, N)) (hin : ∀ w ∈ u_ws C T N, w ∈ zT) (hty : zty T N tyf) (hk : k < N) (hl : Cond.fieldLink (zy (zbM B)).cls idx (T k).1 (T k).2.1 (T k).2.2.1 ∈ zT) (hfin : (T k).2.2.2 = true) (hinit : (zy (zbM B)).name = "<init>") (hdecl : (T k).1 = (zy (zbM B)).cls) (hn : ∀ g, narrow (tyf k) (zv g v) = zv g v) (hfit : ∀ g, fits (tyf k) (zv g v) = true) (hlen : k < fs.length) (hd : decode (zbc B) pc = .ok (.putfield idx, 3)) (he : h[q]? = some (.inr (ci, fs))) (kk : Z B (pc + 3) lv st (h.set q (.inr (ci, fs.set k v))) ce sl) : Z B pc lv (v :: .ref q :: st) h ce sl := by
  intro p e R s m args below meth c g Qf hF hO H locs ls hH hS hl0
  obtain ⟨hx, hcd, hml, hown, hts, -, -, hin2, hf1, hf2, hf3, hf4, hK, -⟩ := id hO
  have hap := va_apart (own := (zy (zbM B)).cls) hts hin tyf hty.1 hty.2 hK.1 hc
  obtain ⟨r, h1, cell, q1, q2, q3, q4⟩ := hH.1 q _ (zw_get (g := g) he)
  have hr : r = (C, T, N) := Option.some.inj (h1.symm.trans hc)
  subst hr
  obtain ⟨hSl, hfc, kC, hkC, hkind⟩ := hK.1.1 ci _ hc
  obtain ⟨cf, kf, fi, f, hi, hsl⟩ := hSl k hk
  have hlay := hts _ (hin _ (u_in_lay hk))
  unfold u_lay at hlay
  rw [if_pos hfin] at hlay
  have hst := (u_facts hfc hkC (u_lays hts hin hk) hi).1
  have hcf : m.cls = cf := by
    obtain ⟨_, _, c', _, _, _, -, -, hf', -, -, -, hown2, -⟩ := Cond.laysFinal_spec hlay
    have e1 : c' = cf := by have := hi.symm.trans hf'; simp at this; exact this.1.symm
    rw [hdecl] at hown2
    rw [← e1]; exact Option.some.inj (hown.symm.trans hown2)
  have h6 := u_fits hfc hkC hkind (Or.inr hlay) hi (hty.1 k hk) (hn g) (hfit g)
  refine W.putFinK hx hcd hown (hts _ hl) hi hst hcf (hin2 hinit) (by rw [q2]; exact h6) q1 q3 (by rw [hsl]; exact k2_hasslot (q4 k hk)) rfl rfl hd fun H' e1 e2 e3 => ?_
  rw [hsl] at e1 ⊢
  exact kk p e R s m args below meth c g Qf hF hO H' _ ls (hH.set he (fun ty x0 h0 => by cases h0) e2 (zput_at hc hap hk hlen e1 q2 q3 q4) e3) (hS.put e2 e3 (zA_at hH he)) hl0
/-- a new cell behind the others -/
theorem zO.push {g : zG} {s : State} {h : zH} {H H1 : Heap} {e1 : zE} (hO : zO g s h H) (hl : h.length < zE0) (hz : H1.size = H.size + 1) (ha : va_at g.2.1 vwCl (H.size, zc g e1) H1) (oq : ∀ a : Nat, a < H.size → H1[a]? = H[a]?) (ht : ∀ ty x, e1 = .inl (ty, x) → ArrOfT s (zkap g ty) ty ∧ va_RA s (zkap g ty) ty) : zO g s (h ++ [e1]) H1 ∧ za g h.length = H.size := by
  obtain ⟨h1, h2, h3, h4⟩ := hO
  have hza : za g h.length = H.size := by rw [za_lt hl, h2]
  refine ⟨⟨?_, by rw [hz, h2, List.length_append]; rfl, by rw [List.length_append]; exact hl, fun k ty x hk => ?_⟩, hza⟩
  · rw [← zw_push]
    refine (h1.kept fun k q hk => oq q.1 (h1 k q hk).lt).app fun k q hk => ?_
    have hz : k < 1 := (List.getElem?_eq_some_iff.mp hk).1
    rw [show k = 0 by omega] at hk
    cases hk
    rw [hza]
    exact ha
  · by_cases hkl : k < h.length
    · rw [List.getElem?_append_left hkl] at hk
      exact h4 k ty x hk
    · rw [List.getElem?_append_right (by omega)] at hk
      have hz : k - h.length < 1 := (List.getElem?_eq_some_iff.mp hk).1
      rw [show k - h.length = 0 by omega] at hk
      exact ht ty x (Option.some.inj hk)
theorem z_new {idx ci N : Nat} {C : String} {T : u_T} {fs : List Value} {tyf : Nat → FieldType} (hc : vwCl[ci]? = some (C, T, N)) (hin : ∀ w ∈ u_ws C T N, w ∈ zT) (hty : zty T N tyf) (hcl : Cond.classLink (zy (zbM B)).cls idx C ∈ zT) (hinst : Cond.instantiable C N ∈ zT) (hini : Cond.initialized C ∈ zT) (hfs : ∀ j, j < N → defaultValue (tyf j) = vp_V fs j) (hnr : ∀ g, fs.map (zv g) = fs) (hl : h.length < zE0) (hce : ce + 1 ≤ B.2.2.1) (hsl : sl + N ≤ B.2.2.2.1) (hd : decode (zbc B) pc = .ok (.new idx, 3)) (kk : Z B (pc + 3) lv (.ref h.length :: st) (h ++ [.inr (ci, fs)]) (ce + 1) (sl + N)) : Z B pc lv st h ce sl := by
  intro p e R s m args below meth c g Qf hF hO H locs ls hH hS hl0
  obtain ⟨hx, hcd, hml, hown, hts, -, -, -, hf1, hf2, hf3, hf4, hK, -⟩ := id hO
  have hKn := hK.1.1 ci _ hc
  refine W.newcK hx hcd hown (hts _ hcl) (hts _ hinst) (hts _ hini) rfl hd (Nat.le_trans hce hf3) (Nat.le_trans hsl hf4) hKn.2.1 rfl fun H1 kC hkC e1 z1 o1 => ?_
  obtain ⟨hO1, hza⟩ := hH.push (e1 := .inr (ci, fs)) hl z1 ⟨_, hc, by
    show t_OB H.size _ N _ H1 (vp_V (fs.map (zv g)))
    rw [hnr g]
    exact (u_born tyf hts hin hKn hkC e1 hty.1).to hfs⟩ o1 (fun ty x h0 => by cases h0)
  have hS1 : va_S (zA g) s.heap H1 locs := ⟨Nat.le_trans hS.1 (by omega), fun x h1 h2 => (o1 x (Nat.lt_of_lt_of_le h1 hS.1)).trans (hS.2.1 x h1 h2), hS.2.2⟩
  have key := kk p e R s m args below meth c g Qf hF hO H1 locs ls hO1 hS1 hl0
  rw [List.map_cons, zv_ref, hza] at key
  exact key
theorem z_newa {atype : ArrayType} {n : Int32} {N : Nat} {x : vp_A} (hcl : Cond.arrayClass (newarray.typeOf atype) ∈ zT) (hx : ∀ cA : ClassId, vp_cell cA (N, x.2) = arrV cA N (fun _ => defaultValue (newarray.typeOf atype))) (hra : ∀ (s : State) (cA : ClassId), s.vm.findClass ("[" ++ (newarray.typeOf atype).toString) = some cA → va_RA s cA (newarray.typeOf atype)) (hn : ¬ n < 0) (hN : n.toNatClampNeg = N) (hby : N * componentBytes (newarray.typeOf atype) ≤ 536870912) (hl : h.length < zE0) (hce : ce + 1 ≤ B.2.2.1) (hsl : sl + N ≤ B.2.2.2.1) (hd : decode (zbc B) pc = .ok (.newarray atype, 2)) (kk : Z B (pc + 2) lv (.ref h.length :: st) (h ++ [.inl (newarray.typeOf atype, N, x.2)]) (ce + 1) (sl + N)) : Z B pc lv (.int n :: st) h ce sl := by
  intro p e R s m args below meth c g Qf hF hO H locs ls hH hS hl0
  obtain ⟨hx0, hcd, hml, hown, hts, -, -, -, hf1, hf2, hf3, hf4, hK, -⟩ := id hO
  refine va_newaK hx0 hcd (hts _ hcl) rfl hd rfl hn hN hby (Nat.le_trans hce hf3) (Nat.le_trans hsl hf4) rfl fun H1 cA e1 z1 o1 hAr hNm => ?_
  have hcA := hK.2.1 _ _ hNm
  subst hcA
  obtain ⟨hO1, hza⟩ := hH.push (e1 := .inl (newarray.typeOf atype, N, x.2)) hl z1 (by
    show H1[H.size]? = some (vp_cell _ (N, x.2))
    rw [hx]
    exact e1) o1 (fun ty x1 h0 => by cases h0; exact ⟨hAr, hra s _ hNm⟩)
  have hS1 : va_S (zA g) s.heap H1 locs := ⟨Nat.le_trans hS.1 (by omega), fun x h1 h2 => (o1 x (Nat.lt_of_lt_of_le h1 hS.1)).trans (hS.2.1 x h1 h2), hS.2.2⟩
  have key := kk p e R s m args below meth c g Qf hF hO H1 locs ls hO1 hS1 hl0
  rw [List.map_cons, zv_ref, hza] at key
  exact key
end ZFi
section ZFb
variable {B : zB} {pc : Nat} {lv : zL} {st : List Value} {h : zH} {ce sl : Nat}
/-- the field at the entry idx of own's pool: slot k of class ci, its type, whether it is final -/
def zFl (own : String) (idx ci k : Nat) (ty : FieldType) (fin : Bool) : Prop := ∃ (C : String) (T : u_T) (N : Nat) (tyf : Nat → FieldType), vwCl[ci]? = some (C, T, N) ∧ (∀ w ∈ u_ws C T N, w ∈ zT) ∧ zty T N tyf ∧ k < N ∧ tyf k = ty ∧ (T k).2.2.2 = fin ∧ (T k).1 = C ∧ (Cond.fieldLink own idx (T k).1 (T k).2.1 (T k).2.2.1 ∈ zT ∨ ∃ host, Cond.fieldLinkNest own idx (T k).1 (T k).2.1 (T k).2.2.1 host ∈ zNW)
theorem z_getf {q idx ci k : Nat} {ty : FieldType} {fin : Bool} {fs : List Value} {v : Value} (hf : zFl (zy (zbM B)).cls idx ci k ty fin) (hd : decode (zbc B) pc = .ok (.getfield idx, 3)) (he : h[q]? = some (.inr (ci, fs))) (hv : fs[k]? = some v) (kk : Z B (pc + 3) lv (v :: st) h ce sl) : Z B pc lv (.ref q :: st) h ce sl := by
  obtain ⟨C, T, N, tyf, hc, hin, hty, hk, -, -, -, hl | ⟨host, hl⟩⟩ := hf
  · exact z_get k hc hin hk hl hd he hv kk
  · exact z_getN k hc hin hk hl hd he hv kk
theorem z_putf {q idx ci k : Nat} {ty : FieldType} {fs : List Value} {v : Value} (hf : zFl (zy (zbM B)).cls idx ci k ty false) (hn : ∀ g, narrow ty (zv g v) = zv g v) (hfit : ∀ g, fits ty (zv g v) = true) (hlen : k < fs.length) (hd : decode (zbc B) pc = .ok (.putfield idx, 3)) (he : h[q]? = some (.inr (ci, fs))) (kk : Z B (pc + 3) lv st (h.set q (.inr (ci, fs.set k v))) ce sl) : Z B pc lv (v :: .ref q :: st) h ce sl := by
  obtain ⟨C, T, N, tyf, hc, hin, hty, hk, rfl, hfin, -, hl | ⟨host, hl⟩⟩ := hf
  · exact z_put k hc hin hty hk hl hfin hn hfit hlen hd he kk
  · exact z_putN k hc hin hty hk hl hfin hn hfit hlen hd he kk
theorem z_putff {q idx ci k : Nat} {ty : FieldType} {fs : List Value} {v : Value} (hf : zFl (zy (zbM B)).cls idx ci k ty true) (hcl : ∀ C T N, vwCl[ci]? = some (C, T, N) → C = (zy (zbM B)).cls) (hnest : ∀ C T N, vwCl[ci]? = some (C, T, N) → Cond.fieldLink (zy (zbM B)).cls idx (T k).1 (T k).2.1 (T k).2.2.1 ∈ zT) (hinit : (zy (zbM B)).name = "<init>") (hn : ∀ g, narrow ty (zv g v) = zv g v) (hfit : ∀ g, fits ty (zv g v) = true) (hlen : k < fs.length) (hd : decode (zbc B) pc = .ok (.putfield idx, 3)) (he : h[q]? = some (.inr (ci, fs))) (kk : Z B (pc + 3) lv st (h.set q (.inr (ci, fs.set k v))) ce sl) : Z B pc lv (v :: .ref q :: st) h ce sl := by
  obtain ⟨C, T, N, tyf, hc, hin, hty, hk, rfl, hfin, hown, -⟩ := hf
  exact z_putF k hc hin hty hk (hnest C T N hc) hfin hinit (hown.trans (hcl C T N hc)) hn hfit hlen hd he kk
/-- a class of which new objects are made, from own's pool -/
def zNw (own : String) (idx ci N : Nat) (fs : List Value) : Prop := ∃ (C : String) (T : u_T) (tyf : Nat → FieldType), vwCl[ci]? = some (C, T, N) ∧ (∀ w ∈ u_ws C T N, w ∈ zT) ∧ zty T N tyf ∧ Cond.classLink own idx C ∈ zT ∧ Cond.instantiable C N ∈ zT ∧ Cond.initialized C ∈ zT ∧ (∀ j, j < N → defaultValue (tyf j) = vp_V fs j) ∧ ∀ g, fs.map (zv g) = fs
theorem z_newo {idx ci N : Nat} {fs : List Value} (hw : zNw (zy (zbM B)).cls idx ci N fs) (hl : h.length < zE0) (hce : ce + 1 ≤ B.2.2.1) (hsl : sl + N ≤ B.2.2.2.1) (hd : decode (zbc B) pc = .ok (.new idx, 3)) (kk : Z B (pc + 3) lv (.ref h.length :: st) (h ++ [.inr (ci, fs)]) (ce + 1) (sl + N)) : Z B pc lv st h ce sl := by
  obtain ⟨C, T, tyf, hc, hin, hty, h1, h2, h3, h4, h5⟩ := hw
  exact z_new hc hin hty h1 h2 h3 h4 h5 hl hce hsl hd kk
end ZFb
end
section
/-! the methods, and what the tables say of fields, calls, constants, new objects -/
abbrev MX6_init : zM := (yX6_init, cX6_init, 1, none)
abbrev MX5_init : zM := (yX5_init, cX5_init, 1, none)
abbrev MX1_init : zM := (yX1_init, cX1_init, 1, none)
abbrev MX3_init : zM := (yX3_init, cX3_init, 1, none)
abbrev MX0_init : zM := (yX0_init, cX0_init, 1, none)
abbrev MX4_init : zM := (yX4_init, cX4_init, 1, none)
abbrev MX2_init : zM := (yX2_init, cX2_init, 1, none)
abbrev MX1_add : zM := (yX1_add, cX1_add, 2, none)
abbrev MX6_put : zM := (yX6_put, cX6_put, 3, none)
abbrev MX3_settle : zM := (yX3_settle, cX3_settle, 2, none)
abbrev MX6_allBelow : zM := (yX6_allBelow, cX6_allBelow, 1, (some .int))
abbrev MX6_bit : zM := (yX6_bit, cX6_bit, 1, (some .int))
abbrev MX6_feed : zM := (yX6_feed, cX6_feed, 5, (some .int))
abbrev MX5_append : zM := (yX5_append, cX5_append, 2, none)
abbrev MX6_parish : zM := (yX6_parish, cX6_parish, 1, (some .int))
abbrev MX3_readFrom : zM := (yX3_readFrom, cX3_readFrom, 3, none)
abbrev MX5_begin : zM := (yX5_begin, cX5_begin, 1, none)
abbrev MX5_goesOn : zM := (yX5_goesOn, cX5_goesOn, 1, (some .boolean))
abbrev MX5_skipBlanks : zM := (yX5_skipBlanks, cX5_skipBlanks, 1, none)
abbrev MX5_byteAt : zM := (yX5_byteAt, cX5_byteAt, 2, (some .int))
abbrev MX3_readClause : zM := (yX3_readClause, cX3_readClause, 3, none)
abbrev MX5_takeWord : zM := (yX5_takeWord, cX5_takeWord, 4, (some .boolean))
abbrev MJ0_length_8abf5 : zM := (yJ0_length_8abf5, cJ0_length_8abf5, 1, (some .int))
abbrev MJ0_coder_7d493 : zM := (yJ0_coder_7d493, cJ0_coder_7d493, 1, (some .byte))
abbrev MJ0_charAt_5068e : zM := (yJ0_charAt_5068e, cJ0_charAt_5068e, 2, (some .char))
abbrev MJ0_isLatin1_aae02 : zM := (yJ0_isLatin1_aae02, cJ0_isLatin1_aae02, 1, (some .boolean))
abbrev MJ1_charAt_3b067 : zM := (yJ1_charAt_3b067, cJ1_charAt_3b067, 2, (some .char))
abbrev MJ0_checkIndex_df160 : zM := (yJ0_checkIndex_df160, cJ0_checkIndex_df160, 2, none)
abbrev MJ3_checkIndex_8e157 : zM := (yJ3_checkIndex_8e157, cJ3_checkIndex_8e157, 3, (some .int))
abbrev MJ2_charAt_3b067 : zM := (yJ2_charAt_3b067, cJ2_charAt_3b067, 2, (some .char))
abbrev MJ2_checkIndex_2214a : zM := (yJ2_checkIndex_2214a, cJ2_checkIndex_2214a, 2, none)
abbrev MJ2_length_9d52b : zM := (yJ2_length_9d52b, cJ2_length_9d52b, 1, (some .int))
abbrev MJ2_getChar_3b067 : zM := (yJ2_getChar_3b067, cJ2_getChar_3b067, 2, (some .char))
abbrev MX3_readSun : zM := (yX3_readSun, cX3_readSun, 3, none)
abbrev MX5_blame : zM := (yX5_blame, cX5_blame, 3, none)
abbrev MX5_takeNumber : zM := (yX5_takeNumber, cX5_takeNumber, 5, (some .int))
abbrev MX5_takeStop : zM := (yX5_takeStop, cX5_takeStop, 1, none)
abbrev MX3_readYard : zM := (yX3_readYard, cX3_readYard, 3, none)
abbrev MX3_readDead : zM := (yX3_readDead, cX3_readDead, 3, none)
abbrev MX3_copyFrom : zM := (yX3_copyFrom, cX3_copyFrom, 2, none)
abbrev MX6_copyRow : zM := (yX6_copyRow, cX6_copyRow, 3, none)
abbrev MX6_at : zM := (yX6_at, cX6_at, 2, (some .int))
abbrev MX6_custom : zM := (yX6_custom, cX6_custom, 1, (some .int))
abbrev MX1_readFrom : zM := (yX1_readFrom, cX1_readFrom, 3, none)
abbrev MX1_readClause : zM := (yX1_readClause, cX1_readClause, 4, none)
abbrev MX1_counts : zM := (yX1_counts, cX1_counts, 3, (some .boolean))
abbrev MX1_copyFrom : zM := (yX1_copyFrom, cX1_copyFrom, 2, none)
abbrev MX6_fault : zM := (yX6_fault, cX6_fault, 1, (some .int))
abbrev MX6_told : zM := (yX6_told, cX6_told, 2, (some .int))
abbrev MX3_waiting : zM := (yX3_waiting, cX3_waiting, 1, (some .int))
abbrev MX3_laid : zM := (yX3_laid, cX3_laid, 3, (some .int))
abbrev MX6_yard : zM := (yX6_yard, cX6_yard, 3, (some .int))
abbrev MX3_hasYard : zM := (yX3_hasYard, cX3_hasYard, 2, (some .boolean))
abbrev MX3_whoLiesIn : zM := (yX3_whoLiesIn, cX3_whoLiesIn, 3, (some .int))
abbrev MX6_dead : zM := (yX6_dead, cX6_dead, 3, (some .int))
abbrev MX3_hasDead : zM := (yX3_hasDead, cX3_hasDead, 2, (some .boolean))
abbrev MX6_has : zM := (yX6_has, cX6_has, 2, (some .boolean))
abbrev MX6_order : zM := (yX6_order, cX6_order, 4, (some .int))
abbrev MX3_placeAmong : zM := (yX3_placeAmong, cX3_placeAmong, 8, (some .int))
abbrev MX3_urgentClaim : zM := (yX3_urgentClaim, cX3_urgentClaim, 5, (some .long))
abbrev MX3_claim : zM := (yX3_claim, cX3_claim, 6, (some .long))
abbrev MX3_worth : zM := (yX3_worth, cX3_worth, 3, (some .int))
abbrev MX6_letter : zM := (yX6_letter, cX6_letter, 4, (some .int))
abbrev MX6_gift : zM := (yX6_gift, cX6_gift, 4, (some .int))
abbrev MJ9_min_7cf53 : zM := (yJ9_min_7cf53, cJ9_min_7cf53, 2, (some .int))
abbrev MX6_knock : zM := (yX6_knock, cX6_knock, 4, (some .int))
abbrev MX6_day : zM := (yX6_day, cX6_day, 2, (some .int))
abbrev MX3_passDay : zM := (yX3_passDay, cX3_passDay, 5, none)
abbrev MX3_taken : zM := (yX3_taken, cX3_taken, 3, (some .int))
abbrev MX3_thawOf : zM := (yX3_thawOf, cX3_thawOf, 3, (some .int))
abbrev MJ9_max_7cf53 : zM := (yJ9_max_7cf53, cJ9_max_7cf53, 2, (some .int))
abbrev MX3_soft : zM := (yX3_soft, cX3_soft, 3, (some .int))
abbrev MX6_rats : zM := (yX6_rats, cX6_rats, 4, (some .int))
abbrev MX3_passNight : zM := (yX3_passNight, cX3_passNight, 4, none)
abbrev MX3_draw : zM := (yX3_draw, cX3_draw, 2, (some .int))
abbrev MX3_boardless : zM := (yX3_boardless, cX3_boardless, 3, (some .int))
abbrev MX6_lay : zM := (yX6_lay, cX6_lay, 3, (some .int))
abbrev MX3_layDown : zM := (yX3_layDown, cX3_layDown, 4, (some .int))
abbrev MX6_spring : zM := (yX6_spring, cX6_spring, 4, (some .int))
abbrev MX6_useSpades : zM := (yX6_useSpades, cX6_useSpades, 5, none)
abbrev MX3_firstAmong : zM := (yX3_firstAmong, cX3_firstAmong, 9, (some .int))
abbrev MX3_softAndFree : zM := (yX3_softAndFree, cX3_softAndFree, 1, (some .int))
abbrev MJ6_numberOfTrailingZeros_0f7a4 : zM := (yJ6_numberOfTrailingZeros_0f7a4, cJ6_numberOfTrailingZeros_0f7a4, 2, (some .int))
abbrev MJ6_bitCount_0f7a4 : zM := (yJ6_bitCount_0f7a4, cJ6_bitCount_0f7a4, 1, (some .int))
abbrev MX6_offended : zM := (yX6_offended, cX6_offended, 2, (some .int))
abbrev MX4_begin : zM := (yX4_begin, cX4_begin, 5, none)
abbrev MX4_whoOffends : zM := (yX4_whoOffends, cX4_whoOffends, 4, (some .int))
abbrev MX4_offends : zM := (yX4_offends, cX4_offends, 3, (some .boolean))
abbrev MX6_quarrels : zM := (yX6_quarrels, cX6_quarrels, 1, (some .int))
abbrev MX4_quarrelsNow : zM := (yX4_quarrelsNow, cX4_quarrelsNow, 3, (some .int))
abbrev MX4_quarrelsAmong : zM := (yX4_quarrelsAmong, cX4_quarrelsAmong, 5, (some .int))
abbrev MX4_quarrelsOf : zM := (yX4_quarrelsOf, cX4_quarrelsOf, 5, (some .int))
abbrev MJ9_abs_0f7a4 : zM := (yJ9_abs_0f7a4, cJ9_abs_0f7a4, 1, (some .int))
abbrev MX6_laying : zM := (yX6_laying, cX6_laying, 2, (some .int))
abbrev MX4_find : zM := (yX4_find, cX4_find, 3, none)
abbrev MX4_search : zM := (yX4_search, cX4_search, 6, none)
abbrev MX6_when : zM := (yX6_when, cX6_when, 3, (some .int))
abbrev MX3_daysUntilSoft : zM := (yX3_daysUntilSoft, cX3_daysUntilSoft, 4, (some .int))
abbrev MX3_softBehind : zM := (yX3_softBehind, cX3_softBehind, 6, (some .int))
abbrev MX6_span : zM := (yX6_span, cX6_span, 5, (some .int))
abbrev MX6_bribe : zM := (yX6_bribe, cX6_bribe, 3, (some .int))
abbrev MX6_leastBribe : zM := (yX6_leastBribe, cX6_leastBribe, 8, (some .int))
abbrev MX6_label : zM := (yX6_label, cX6_label, 4, (some .int))
abbrev MX6_mark : zM := (yX6_mark, cX6_mark, 4, (some .int))
abbrev MX6_fits : zM := (yX6_fits, cX6_fits, 1, (some .int))
abbrev MX2_countWays : zM := (yX2_countWays, cX2_countWays, 7, (some .int))
abbrev MX6_mixed : zM := (yX6_mixed, cX6_mixed, 2, (some .int))
abbrev MX2_weigh : zM := (yX2_weigh, cX2_weigh, 6, none)
abbrev MX2_changesWith : zM := (yX2_changesWith, cX2_changesWith, 6, (some .int))
abbrev MX2_fewestChanges : zM := (yX2_fewestChanges, cX2_fewestChanges, 1, (some .int))
abbrev MX2_nameOf : zM := (yX2_nameOf, cX2_nameOf, 7, (some .int))
abbrev MX6_churches : zM := (yX6_churches, cX6_churches, 7, (some .int))
abbrev MX3_ranksOf : zM := (yX3_ranksOf, cX3_ranksOf, 4, (some .int))
abbrev MX6_write : zM := (yX6_write, cX6_write, 3, (some .int))
abbrev MX0_add : zM := (yX0_add, cX0_add, 3, none)
abbrev MX6_tear : zM := (yX6_tear, cX6_tear, 2, (some .int))
abbrev MX6_judge : zM := (yX6_judge, cX6_judge, 6, (some .int))
abbrev MX6_seed : zM := (yX6_seed, cX6_seed, 3, (some .int))
abbrev MX6_keep : zM := (yX6_keep, cX6_keep, 2, (some .int))
abbrev MX6_goBack : zM := (yX6_goBack, cX6_goBack, 2, (some .int))
abbrev MX7_init : zM := (yX7_init, cX7_init, 1, none)
abbrev MX7_feed : zM := (yX7_feed, cX7_feed, 5, (some .int))
abbrev MX7_in : zM := (yX7_in, cX7_in, 6, (some .boolean))
abbrev MX7_parish : zM := (yX7_parish, cX7_parish, 2, (some .int))
abbrev MX7_start : zM := (yX7_start, cX7_start, 1, none)
abbrev MX7_here : zM := (yX7_here, cX7_here, 1, (some .int))
abbrev MX7_takeClause : zM := (yX7_takeClause, cX7_takeClause, 3, none)
abbrev MX7_takeWord : zM := (yX7_takeWord, cX7_takeWord, 2, none)
abbrev MX7_isWord : zM := (yX7_isWord, cX7_isWord, 9, (some .boolean))
abbrev MX7_want : zM := (yX7_want, cX7_want, 4, (some .boolean))
abbrev MX7_takeNumber : zM := (yX7_takeNumber, cX7_takeNumber, 6, (some .int))
abbrev MX7_takeEnd : zM := (yX7_takeEnd, cX7_takeEnd, 1, none)
abbrev MX7_custom : zM := (yX7_custom, cX7_custom, 4, (some .int))
abbrev MX7_has : zM := (yX7_has, cX7_has, 2, (some .boolean))
abbrev MX7_fault : zM := (yX7_fault, cX7_fault, 1, (some .int))
abbrev MX7_told : zM := (yX7_told, cX7_told, 2, (some .int))
abbrev MX7_loft : zM := (yX7_loft, cX7_loft, 4, (some .int))
abbrev MX7_isInLoft : zM := (yX7_isInLoft, cX7_isInLoft, 3, (some .boolean))
abbrev MX7_one : zM := (yX7_one, cX7_one, 1, (some .int))
abbrev MX7_laid : zM := (yX7_laid, cX7_laid, 4, (some .int))
abbrev MX7_yard : zM := (yX7_yard, cX7_yard, 3, (some .int))
abbrev MX7_isYard : zM := (yX7_isYard, cX7_isYard, 2, (some .boolean))
abbrev MX7_who : zM := (yX7_who, cX7_who, 4, (some .int))
abbrev MX7_dead : zM := (yX7_dead, cX7_dead, 3, (some .int))
abbrev MX7_isDead : zM := (yX7_isDead, cX7_isDead, 2, (some .boolean))
abbrev MX7_order : zM := (yX7_order, cX7_order, 2, (some .int))
abbrev MX7_inOrder : zM := (yX7_inOrder, cX7_inOrder, 4, (some .int))
abbrev MX7_placeOf : zM := (yX7_placeOf, cX7_placeOf, 5, (some .int))
abbrev MX7_isAhead : zM := (yX7_isAhead, cX7_isAhead, 6, (some .boolean))
abbrev MX7_isAheadByCustom : zM := (yX7_isAheadByCustom, cX7_isAheadByCustom, 6, (some .boolean))
abbrev MX7_valueBy : zM := (yX7_valueBy, cX7_valueBy, 4, (some .int))
abbrev MX7_letter : zM := (yX7_letter, cX7_letter, 4, (some .int))
abbrev MX7_gift : zM := (yX7_gift, cX7_gift, 3, (some .int))
abbrev MX7_knock : zM := (yX7_knock, cX7_knock, 3, (some .int))
abbrev MX7_day : zM := (yX7_day, cX7_day, 2, (some .int))
abbrev MX7_pass : zM := (yX7_pass, cX7_pass, 3, none)
abbrev MX7_rate : zM := (yX7_rate, cX7_rate, 4, (some .int))
abbrev MX7_softYards : zM := (yX7_softYards, cX7_softYards, 3, (some .int))
abbrev MX7_rats : zM := (yX7_rats, cX7_rats, 5, (some .int))
abbrev MX7_gnaw : zM := (yX7_gnaw, cX7_gnaw, 3, none)
abbrev MX7_draw : zM := (yX7_draw, cX7_draw, 2, (some .int))
abbrev MX7_lay : zM := (yX7_lay, cX7_lay, 3, (some .int))
abbrev MX7_layIn : zM := (yX7_layIn, cX7_layIn, 5, (some .int))
abbrev MX7_spring : zM := (yX7_spring, cX7_spring, 9, (some .int))
abbrev MX7_leastSoft : zM := (yX7_leastSoft, cX7_leastSoft, 2, (some .int))
abbrev MX7_ones : zM := (yX7_ones, cX7_ones, 3, (some .int))
abbrev MX7_offended : zM := (yX7_offended, cX7_offended, 4, (some .int))
abbrev MX7_offends : zM := (yX7_offends, cX7_offends, 4, (some .boolean))
abbrev MX7_quarrels : zM := (yX7_quarrels, cX7_quarrels, 1, (some .int))
abbrev MX7_quarrelsIn : zM := (yX7_quarrelsIn, cX7_quarrelsIn, 6, (some .int))
abbrev MX7_size : zM := (yX7_size, cX7_size, 1, (some .int))
abbrev MX7_laying : zM := (yX7_laying, cX7_laying, 4, (some .int))
abbrev MX7_findLaying : zM := (yX7_findLaying, cX7_findLaying, 6, (some .boolean))
abbrev MX7_copy : zM := (yX7_copy, cX7_copy, 4, none)
abbrev MX7_isFree : zM := (yX7_isFree, cX7_isFree, 2, (some .boolean))
abbrev MX7_fill : zM := (yX7_fill, cX7_fill, 4, (some .boolean))
abbrev MX7_isUnlike : zM := (yX7_isUnlike, cX7_isUnlike, 4, (some .boolean))
abbrev MX7_goOn : zM := (yX7_goOn, cX7_goOn, 4, (some .boolean))
abbrev MX7_when : zM := (yX7_when, cX7_when, 3, (some .int))
abbrev MX7_whenSoft : zM := (yX7_whenSoft, cX7_whenSoft, 6, (some .int))
abbrev MX7_daysTill : zM := (yX7_daysTill, cX7_daysTill, 4, (some .int))
abbrev MX7_span : zM := (yX7_span, cX7_span, 5, (some .int))
abbrev MX7_bribe : zM := (yX7_bribe, cX7_bribe, 4, (some .int))
abbrev MX7_label : zM := (yX7_label, cX7_label, 4, (some .int))
abbrev MX7_mark : zM := (yX7_mark, cX7_mark, 4, (some .int))
abbrev MX7_fits : zM := (yX7_fits, cX7_fits, 1, (some .int))
abbrev MX7_findNames : zM := (yX7_findNames, cX7_findNames, 6, none)
abbrev MX7_ahead : zM := (yX7_ahead, cX7_ahead, 2, (some .int))
abbrev MX7_mixed : zM := (yX7_mixed, cX7_mixed, 5, (some .int))
abbrev MX7_churches : zM := (yX7_churches, cX7_churches, 8, (some .int))
abbrev MX7_write : zM := (yX7_write, cX7_write, 3, (some .int))
abbrev MX7_tear : zM := (yX7_tear, cX7_tear, 2, (some .int))
abbrev MX7_judge : zM := (yX7_judge, cX7_judge, 5, (some .int))
abbrev MX7_seed : zM := (yX7_seed, cX7_seed, 3, (some .int))
abbrev MX7_keep : zM := (yX7_keep, cX7_keep, 2, (some .int))
abbrev MX7_goBack : zM := (yX7_goBack, cX7_goBack, 2, (some .int))
abbrev ML_law : zM := (yL_law, cL_law, 4, some .boolean)
theorem zh_int : Cond.arrayClass .int ∈ zT := (zt1 (i := 67) (by decide +kernel) rfl)
theorem zh_byte : Cond.arrayClass .byte ∈ zT := (zt1 (i := 50) (by decide +kernel) rfl)
theorem zh_boolean : Cond.arrayClass .boolean ∈ zT := (zt4 (i := 125) (by decide +kernel) rfl)
theorem zh_oi : Cond.instanceMethod Lib.objectInit ∈ zT := (zt1 (i := 21) (by decide +kernel) rfl)
theorem zh_oc : Cond.code Lib.objectInit ⟨#[0xb1]⟩ 1 none ∈ zT := (zt1 (i := 22) (by decide +kernel) rfl)
theorem zh_max : Cond.static Lib.Math.max.name ∈ zT := (zt3 (i := 38) (by decide +kernel) rfl)
theorem zh_maxc : Cond.code Lib.Math.max.name Lib.Math.max.code 2 (some .int) ∈ zT := (zt3 (i := 39) (by decide +kernel) rfl)
theorem zh_min : Cond.static Lib.Math.min.name ∈ zT := (zt3 (i := 15) (by decide +kernel) rfl)
theorem zh_minc : Cond.code Lib.Math.min.name Lib.Math.min.code 2 (some .int) ∈ zT := (zt3 (i := 16) (by decide +kernel) rfl)
theorem zh_abs : Cond.static Lib.Math.abs.name ∈ zT := (zt3 (i := 143) (by decide +kernel) rfl)
theorem zh_absc : Cond.code Lib.Math.abs.name Lib.Math.abs.code 1 (some .int) ∈ zT := (zt3 (i := 144) (by decide +kernel) rfl)
theorem zh_mi : Cond.initialized "java/lang/Math" ∈ zT := (zt1 (i := 13) (by decide +kernel) rfl)
theorem zlX0 : ∀ w ∈ wsX00, w ∈ zT := by
  intro w hw
  obtain ⟨k, hk, rfl⟩ := List.mem_map.mp hw
  have hk := List.mem_range.mp hk
  match k, hk with
  | 0, _ => exact (zt1 (i := 156) (by decide +kernel) rfl)
  | 1, _ => exact (zt1 (i := 158) (by decide +kernel) rfl)
  | 2, _ => exact (zt1 (i := 160) (by decide +kernel) rfl)
  | k + 3, hk => exact absurd hk (by omega)
theorem zlX1 : ∀ w ∈ wsX10, w ∈ zT := by
  intro w hw
  obtain ⟨k, hk, rfl⟩ := List.mem_map.mp hw
  have hk := List.mem_range.mp hk
  match k, hk with
  | 0, _ => exact (zt1 (i := 62) (by decide +kernel) rfl)
  | 1, _ => exact (zt1 (i := 64) (by decide +kernel) rfl)
  | k + 2, hk => exact absurd hk (by omega)
theorem zlX2 : ∀ w ∈ wsX20, w ∈ zT := by
  intro w hw
  obtain ⟨k, hk, rfl⟩ := List.mem_map.mp hw
  have hk := List.mem_range.mp hk
  match k, hk with
  | 0, _ => exact (zt1 (i := 198) (by decide +kernel) rfl)
  | k + 1, hk => exact absurd hk (by omega)
theorem zlX3 : ∀ w ∈ wsX30, w ∈ zT := by
  intro w hw
  obtain ⟨k, hk, rfl⟩ := List.mem_map.mp hw
  have hk := List.mem_range.mp hk
  match k, hk with
  | 0, _ => exact (zt1 (i := 111) (by decide +kernel) rfl)
  | 1, _ => exact (zt1 (i := 113) (by decide +kernel) rfl)
  | 2, _ => exact (zt1 (i := 115) (by decide +kernel) rfl)
  | 3, _ => exact (zt1 (i := 117) (by decide +kernel) rfl)
  | 4, _ => exact (zt1 (i := 119) (by decide +kernel) rfl)
  | 5, _ => exact (zt1 (i := 121) (by decide +kernel) rfl)
  | 6, _ => exact (zt1 (i := 123) (by decide +kernel) rfl)
  | 7, _ => exact (zt1 (i := 125) (by decide +kernel) rfl)
  | 8, _ => exact (zt1 (i := 127) (by decide +kernel) rfl)
  | 9, _ => exact (zt1 (i := 129) (by decide +kernel) rfl)
  | 10, _ => exact (zt1 (i := 131) (by decide +kernel) rfl)
  | 11, _ => exact (zt1 (i := 133) (by decide +kernel) rfl)
  | 12, _ => exact (zt1 (i := 135) (by decide +kernel) rfl)
  | 13, _ => exact (zt1 (i := 137) (by decide +kernel) rfl)
  | 14, _ => exact (zt1 (i := 139) (by decide +kernel) rfl)
  | 15, _ => exact (zt1 (i := 141) (by decide +kernel) rfl)
  | k + 16, hk => exact absurd hk (by omega)
theorem zlX4 : ∀ w ∈ wsX40, w ∈ zT := by
  intro w hw
  obtain ⟨k, hk, rfl⟩ := List.mem_map.mp hw
  have hk := List.mem_range.mp hk
  match k, hk with
  | 0, _ => exact (zt1 (i := 178) (by decide +kernel) rfl)
  | 1, _ => exact (zt1 (i := 180) (by decide +kernel) rfl)
  | 2, _ => exact (zt1 (i := 182) (by decide +kernel) rfl)
  | 3, _ => exact (zt1 (i := 184) (by decide +kernel) rfl)
  | 4, _ => exact (zt1 (i := 186) (by decide +kernel) rfl)
  | 5, _ => exact (zt1 (i := 188) (by decide +kernel) rfl)
  | k + 6, hk => exact absurd hk (by omega)
theorem zlX5 : ∀ w ∈ wsX50, w ∈ zT := by
  intro w hw
  obtain ⟨k, hk, rfl⟩ := List.mem_map.mp hw
  have hk := List.mem_range.mp hk
  match k, hk with
  | 0, _ => exact (zt1 (i := 39) (by decide +kernel) rfl)
  | 1, _ => exact (zt1 (i := 41) (by decide +kernel) rfl)
  | 2, _ => exact (zt1 (i := 43) (by decide +kernel) rfl)
  | 3, _ => exact (zt1 (i := 45) (by decide +kernel) rfl)
  | 4, _ => exact (zt1 (i := 47) (by decide +kernel) rfl)
  | k + 5, hk => exact absurd hk (by omega)
theorem zlX6 : ∀ w ∈ wsX60, w ∈ zT := by
  intro w hw
  obtain ⟨k, hk, rfl⟩ := List.mem_map.mp hw
  have hk := List.mem_range.mp hk
  match k, hk with
  | 0, _ => exact (zt1 (i := 231) (by decide +kernel) rfl)
  | 1, _ => exact (zt1 (i := 233) (by decide +kernel) rfl)
  | 2, _ => exact (zt1 (i := 235) (by decide +kernel) rfl)
  | 3, _ => exact (zt1 (i := 237) (by decide +kernel) rfl)
  | 4, _ => exact (zt1 (i := 239) (by decide +kernel) rfl)
  | 5, _ => exact (zt2 (i := 1) (by decide +kernel) rfl)
  | 6, _ => exact (zt2 (i := 3) (by decide +kernel) rfl)
  | 7, _ => exact (zt2 (i := 5) (by decide +kernel) rfl)
  | 8, _ => exact (zt2 (i := 7) (by decide +kernel) rfl)
  | 9, _ => exact (zt2 (i := 9) (by decide +kernel) rfl)
  | 10, _ => exact (zt2 (i := 11) (by decide +kernel) rfl)
  | 11, _ => exact (zt2 (i := 13) (by decide +kernel) rfl)
  | k + 12, hk => exact absurd hk (by omega)
theorem zlX7 : ∀ w ∈ wsX70, w ∈ zT := by
  intro w hw
  obtain ⟨k, hk, rfl⟩ := List.mem_map.mp hw
  have hk := List.mem_range.mp hk
  match k, hk with
  | 0, _ => exact (zt4 (i := 62) (by decide +kernel) rfl)
  | 1, _ => exact (zt4 (i := 64) (by decide +kernel) rfl)
  | 2, _ => exact (zt4 (i := 66) (by decide +kernel) rfl)
  | 3, _ => exact (zt4 (i := 68) (by decide +kernel) rfl)
  | 4, _ => exact (zt4 (i := 70) (by decide +kernel) rfl)
  | 5, _ => exact (zt4 (i := 72) (by decide +kernel) rfl)
  | 6, _ => exact (zt4 (i := 74) (by decide +kernel) rfl)
  | 7, _ => exact (zt4 (i := 76) (by decide +kernel) rfl)
  | 8, _ => exact (zt4 (i := 78) (by decide +kernel) rfl)
  | 9, _ => exact (zt4 (i := 80) (by decide +kernel) rfl)
  | 10, _ => exact (zt4 (i := 82) (by decide +kernel) rfl)
  | 11, _ => exact (zt4 (i := 84) (by decide +kernel) rfl)
  | 12, _ => exact (zt4 (i := 86) (by decide +kernel) rfl)
  | 13, _ => exact (zt4 (i := 88) (by decide +kernel) rfl)
  | 14, _ => exact (zt4 (i := 90) (by decide +kernel) rfl)
  | 15, _ => exact (zt4 (i := 92) (by decide +kernel) rfl)
  | 16, _ => exact (zt4 (i := 94) (by decide +kernel) rfl)
  | 17, _ => exact (zt4 (i := 96) (by decide +kernel) rfl)
  | 18, _ => exact (zt4 (i := 98) (by decide +kernel) rfl)
  | 19, _ => exact (zt4 (i := 100) (by decide +kernel) rfl)
  | 20, _ => exact (zt4 (i := 102) (by decide +kernel) rfl)
  | 21, _ => exact (zt4 (i := 104) (by decide +kernel) rfl)
  | 22, _ => exact (zt4 (i := 106) (by decide +kernel) rfl)
  | 23, _ => exact (zt4 (i := 108) (by decide +kernel) rfl)
  | 24, _ => exact (zt4 (i := 110) (by decide +kernel) rfl)
  | 25, _ => exact (zt4 (i := 112) (by decide +kernel) rfl)
  | 26, _ => exact (zt4 (i := 114) (by decide +kernel) rfl)
  | 27, _ => exact (zt4 (i := 116) (by decide +kernel) rfl)
  | 28, _ => exact (zt4 (i := 118) (by decide +kernel) rfl)
  | 29, _ => exact (zt4 (i := 120) (by decide +kernel) rfl)
  | 30, _ => exact (zt4 (i := 122) (by decide +kernel) rfl)
  | k + 31, hk => exact absurd hk (by omega)
theorem fX5_9 : zFl RX5 9 5 0 (.array .byte) true := ⟨RX5, TX5, 5, tyX5, rfl, zlX5, ⟨tyX5_ok, nmX5⟩, by decide, rfl, rfl, rfl, Or.inl (zt1 (i := 29) (by decide +kernel) rfl)⟩
theorem fX5_15 : zFl RX5 15 5 1 .int false := ⟨RX5, TX5, 5, tyX5, rfl, zlX5, ⟨tyX5_ok, nmX5⟩, by decide, rfl, rfl, rfl, Or.inl (zt1 (i := 30) (by decide +kernel) rfl)⟩
theorem fX5_19 : zFl RX5 19 5 2 .int false := ⟨RX5, TX5, 5, tyX5, rfl, zlX5, ⟨tyX5_ok, nmX5⟩, by decide, rfl, rfl, rfl, Or.inl (zt1 (i := 32) (by decide +kernel) rfl)⟩
theorem fX5_22 : zFl RX5 22 5 3 .int false := ⟨RX5, TX5, 5, tyX5, rfl, zlX5, ⟨tyX5_ok, nmX5⟩, by decide, rfl, rfl, rfl, Or.inl (zt1 (i := 35) (by decide +kernel) rfl)⟩
theorem fX5_25 : zFl RX5 25 5 4 .int false := ⟨RX5, TX5, 5, tyX5, rfl, zlX5, ⟨tyX5_ok, nmX5⟩, by decide, rfl, rfl, rfl, Or.inl (zt1 (i := 37) (by decide +kernel) rfl)⟩
theorem fX1_9 : zFl RX1 9 1 0 (.array .int) true := ⟨RX1, TX1, 2, tyX1, rfl, zlX1, ⟨tyX1_ok, nmX1⟩, by decide, rfl, rfl, rfl, Or.inl (zt1 (i := 57) (by decide +kernel) rfl)⟩
theorem fX1_15 : zFl RX1 15 1 1 .int false := ⟨RX1, TX1, 2, tyX1, rfl, zlX1, ⟨tyX1_ok, nmX1⟩, by decide, rfl, rfl, rfl, Or.inl (zt1 (i := 59) (by decide +kernel) rfl)⟩
theorem fX3_9 : zFl RX3 9 3 0 .int false := ⟨RX3, TX3, 16, tyX3, rfl, zlX3, ⟨tyX3_ok, nmX3⟩, by decide, rfl, rfl, rfl, Or.inl (zt1 (i := 74) (by decide +kernel) rfl)⟩
theorem fX3_15 : zFl RX3 15 3 1 .int false := ⟨RX3, TX3, 16, tyX3, rfl, zlX3, ⟨tyX3_ok, nmX3⟩, by decide, rfl, rfl, rfl, Or.inl (zt1 (i := 76) (by decide +kernel) rfl)⟩
theorem fX3_18 : zFl RX3 18 3 2 .int false := ⟨RX3, TX3, 16, tyX3, rfl, zlX3, ⟨tyX3_ok, nmX3⟩, by decide, rfl, rfl, rfl, Or.inl (zt1 (i := 79) (by decide +kernel) rfl)⟩
theorem fX3_21 : zFl RX3 21 3 3 .int false := ⟨RX3, TX3, 16, tyX3, rfl, zlX3, ⟨tyX3_ok, nmX3⟩, by decide, rfl, rfl, rfl, Or.inl (zt1 (i := 81) (by decide +kernel) rfl)⟩
theorem fX3_24 : zFl RX3 24 3 4 (.array .int) true := ⟨RX3, TX3, 16, tyX3, rfl, zlX3, ⟨tyX3_ok, nmX3⟩, by decide, rfl, rfl, rfl, Or.inl (zt1 (i := 83) (by decide +kernel) rfl)⟩
theorem fX3_28 : zFl RX3 28 3 5 (.array .int) true := ⟨RX3, TX3, 16, tyX3, rfl, zlX3, ⟨tyX3_ok, nmX3⟩, by decide, rfl, rfl, rfl, Or.inl (zt1 (i := 85) (by decide +kernel) rfl)⟩
theorem fX3_31 : zFl RX3 31 3 6 (.array .int) true := ⟨RX3, TX3, 16, tyX3, rfl, zlX3, ⟨tyX3_ok, nmX3⟩, by decide, rfl, rfl, rfl, Or.inl (zt1 (i := 87) (by decide +kernel) rfl)⟩
theorem fX3_34 : zFl RX3 34 3 7 (.array .int) true := ⟨RX3, TX3, 16, tyX3, rfl, zlX3, ⟨tyX3_ok, nmX3⟩, by decide, rfl, rfl, rfl, Or.inl (zt1 (i := 89) (by decide +kernel) rfl)⟩
theorem fX3_37 : zFl RX3 37 3 8 (.array .int) true := ⟨RX3, TX3, 16, tyX3, rfl, zlX3, ⟨tyX3_ok, nmX3⟩, by decide, rfl, rfl, rfl, Or.inl (zt1 (i := 92) (by decide +kernel) rfl)⟩
theorem fX3_40 : zFl RX3 40 3 9 (.array .int) true := ⟨RX3, TX3, 16, tyX3, rfl, zlX3, ⟨tyX3_ok, nmX3⟩, by decide, rfl, rfl, rfl, Or.inl (zt1 (i := 94) (by decide +kernel) rfl)⟩
theorem fX3_43 : zFl RX3 43 3 10 (.array .int) true := ⟨RX3, TX3, 16, tyX3, rfl, zlX3, ⟨tyX3_ok, nmX3⟩, by decide, rfl, rfl, rfl, Or.inl (zt1 (i := 96) (by decide +kernel) rfl)⟩
theorem fX3_46 : zFl RX3 46 3 11 (.array .int) true := ⟨RX3, TX3, 16, tyX3, rfl, zlX3, ⟨tyX3_ok, nmX3⟩, by decide, rfl, rfl, rfl, Or.inl (zt1 (i := 99) (by decide +kernel) rfl)⟩
theorem fX3_49 : zFl RX3 49 3 12 (.array .int) true := ⟨RX3, TX3, 16, tyX3, rfl, zlX3, ⟨tyX3_ok, nmX3⟩, by decide, rfl, rfl, rfl, Or.inl (zt1 (i := 102) (by decide +kernel) rfl)⟩
theorem fX3_52 : zFl RX3 52 3 13 .int false := ⟨RX3, TX3, 16, tyX3, rfl, zlX3, ⟨tyX3_ok, nmX3⟩, by decide, rfl, rfl, rfl, Or.inl (zt1 (i := 105) (by decide +kernel) rfl)⟩
theorem fX3_55 : zFl RX3 55 3 14 .int false := ⟨RX3, TX3, 16, tyX3, rfl, zlX3, ⟨tyX3_ok, nmX3⟩, by decide, rfl, rfl, rfl, Or.inl (zt1 (i := 107) (by decide +kernel) rfl)⟩
theorem fX3_58 : zFl RX3 58 3 15 .int false := ⟨RX3, TX3, 16, tyX3, rfl, zlX3, ⟨tyX3_ok, nmX3⟩, by decide, rfl, rfl, rfl, Or.inl (zt1 (i := 109) (by decide +kernel) rfl)⟩
theorem fX0_9 : zFl RX0 9 0 0 (.array .int) true := ⟨RX0, TX0, 3, tyX0, rfl, zlX0, ⟨tyX0_ok, nmX0⟩, by decide, rfl, rfl, rfl, Or.inl (zt1 (i := 150) (by decide +kernel) rfl)⟩
theorem fX0_15 : zFl RX0 15 0 1 (.array .int) true := ⟨RX0, TX0, 3, tyX0, rfl, zlX0, ⟨tyX0_ok, nmX0⟩, by decide, rfl, rfl, rfl, Or.inl (zt1 (i := 152) (by decide +kernel) rfl)⟩
theorem fX0_18 : zFl RX0 18 0 2 .int false := ⟨RX0, TX0, 3, tyX0, rfl, zlX0, ⟨tyX0_ok, nmX0⟩, by decide, rfl, rfl, rfl, Or.inl (zt1 (i := 154) (by decide +kernel) rfl)⟩
theorem fX4_9 : zFl RX4 9 4 0 (.array .int) true := ⟨RX4, TX4, 6, tyX4, rfl, zlX4, ⟨tyX4_ok, nmX4⟩, by decide, rfl, rfl, rfl, Or.inl (zt1 (i := 169) (by decide +kernel) rfl)⟩
theorem fX4_15 : zFl RX4 15 4 1 (.array .int) true := ⟨RX4, TX4, 6, tyX4, rfl, zlX4, ⟨tyX4_ok, nmX4⟩, by decide, rfl, rfl, rfl, Or.inl (zt1 (i := 170) (by decide +kernel) rfl)⟩
theorem fX4_18 : zFl RX4 18 4 2 (.array .int) true := ⟨RX4, TX4, 6, tyX4, rfl, zlX4, ⟨tyX4_ok, nmX4⟩, by decide, rfl, rfl, rfl, Or.inl (zt1 (i := 171) (by decide +kernel) rfl)⟩
theorem fX4_21 : zFl RX4 21 4 3 (.array .int) true := ⟨RX4, TX4, 6, tyX4, rfl, zlX4, ⟨tyX4_ok, nmX4⟩, by decide, rfl, rfl, rfl, Or.inl (zt1 (i := 172) (by decide +kernel) rfl)⟩
theorem fX4_24 : zFl RX4 24 4 4 .int false := ⟨RX4, TX4, 6, tyX4, rfl, zlX4, ⟨tyX4_ok, nmX4⟩, by decide, rfl, rfl, rfl, Or.inl (zt1 (i := 174) (by decide +kernel) rfl)⟩
theorem fX4_28 : zFl RX4 28 4 5 .boolean false := ⟨RX4, TX4, 6, tyX4, rfl, zlX4, ⟨tyX4_ok, nmX4⟩, by decide, rfl, rfl, rfl, Or.inl (zt1 (i := 176) (by decide +kernel) rfl)⟩
theorem fX2_9 : zFl RX2 9 2 0 (.array .int) true := ⟨RX2, TX2, 1, tyX2, rfl, zlX2, ⟨tyX2_ok, nmX2⟩, by decide, rfl, rfl, rfl, Or.inl (zt1 (i := 197) (by decide +kernel) rfl)⟩
theorem fX6_10 : zFl RX6 10 6 0 (.object "LoftGraves$Text") true := ⟨RX6, TX6, 12, tyX6, rfl, zlX6, ⟨tyX6_ok, nmX6⟩, by decide, rfl, rfl, rfl, Or.inl (zt1 (i := 219) (by decide +kernel) rfl)⟩
theorem fX6_19 : zFl RX6 19 6 1 (.object "LoftGraves$Custom") true := ⟨RX6, TX6, 12, tyX6, rfl, zlX6, ⟨tyX6_ok, nmX6⟩, by decide, rfl, rfl, rfl, Or.inl (zt1 (i := 220) (by decide +kernel) rfl)⟩
theorem fX6_23 : zFl RX6 23 6 2 (.object "LoftGraves$Custom") true := ⟨RX6, TX6, 12, tyX6, rfl, zlX6, ⟨tyX6_ok, nmX6⟩, by decide, rfl, rfl, rfl, Or.inl (zt1 (i := 221) (by decide +kernel) rfl)⟩
theorem fX6_29 : zFl RX6 29 6 3 (.object "LoftGraves$Parish") true := ⟨RX6, TX6, 12, tyX6, rfl, zlX6, ⟨tyX6_ok, nmX6⟩, by decide, rfl, rfl, rfl, Or.inl (zt1 (i := 222) (by decide +kernel) rfl)⟩
theorem fX6_33 : zFl RX6 33 6 4 (.object "LoftGraves$Parish") true := ⟨RX6, TX6, 12, tyX6, rfl, zlX6, ⟨tyX6_ok, nmX6⟩, by decide, rfl, rfl, rfl, Or.inl (zt1 (i := 223) (by decide +kernel) rfl)⟩
theorem fX6_36 : zFl RX6 36 6 5 (.object "LoftGraves$Parish") true := ⟨RX6, TX6, 12, tyX6, rfl, zlX6, ⟨tyX6_ok, nmX6⟩, by decide, rfl, rfl, rfl, Or.inl (zt1 (i := 224) (by decide +kernel) rfl)⟩
theorem fX6_39 : zFl RX6 39 6 6 (.object "LoftGraves$Parish") true := ⟨RX6, TX6, 12, tyX6, rfl, zlX6, ⟨tyX6_ok, nmX6⟩, by decide, rfl, rfl, rfl, Or.inl (zt1 (i := 225) (by decide +kernel) rfl)⟩
theorem fX6_42 : zFl RX6 42 6 7 .boolean false := ⟨RX6, TX6, 12, tyX6, rfl, zlX6, ⟨tyX6_ok, nmX6⟩, by decide, rfl, rfl, rfl, Or.inl (zt1 (i := 226) (by decide +kernel) rfl)⟩
theorem fX6_46 : zFl RX6 46 6 8 .boolean false := ⟨RX6, TX6, 12, tyX6, rfl, zlX6, ⟨tyX6_ok, nmX6⟩, by decide, rfl, rfl, rfl, Or.inl (zt1 (i := 227) (by decide +kernel) rfl)⟩
theorem fX6_52 : zFl RX6 52 6 9 (.object "LoftGraves$Book") true := ⟨RX6, TX6, 12, tyX6, rfl, zlX6, ⟨tyX6_ok, nmX6⟩, by decide, rfl, rfl, rfl, Or.inl (zt1 (i := 228) (by decide +kernel) rfl)⟩
theorem fX6_59 : zFl RX6 59 6 10 (.object "LoftGraves$Plan") true := ⟨RX6, TX6, 12, tyX6, rfl, zlX6, ⟨tyX6_ok, nmX6⟩, by decide, rfl, rfl, rfl, Or.inl (zt1 (i := 229) (by decide +kernel) rfl)⟩
theorem fX6_66 : zFl RX6 66 6 11 (.object "LoftGraves$Naming") true := ⟨RX6, TX6, 12, tyX6, rfl, zlX6, ⟨tyX6_ok, nmX6⟩, by decide, rfl, rfl, rfl, Or.inl (zt1 (i := 230) (by decide +kernel) rfl)⟩
theorem fX7_7 : zFl RX7 7 7 0 (.array .int) true := ⟨RX7, TX7, 31, tyX7, rfl, zlX7, ⟨tyX7_ok, nmX7⟩, by decide, rfl, rfl, rfl, Or.inl (zt4 (i := 31) (by decide +kernel) rfl)⟩
theorem fX7_13 : zFl RX7 13 7 1 (.array .boolean) true := ⟨RX7, TX7, 31, tyX7, rfl, zlX7, ⟨tyX7_ok, nmX7⟩, by decide, rfl, rfl, rfl, Or.inl (zt4 (i := 32) (by decide +kernel) rfl)⟩
theorem fX7_17 : zFl RX7 17 7 2 .int false := ⟨RX7, TX7, 31, tyX7, rfl, zlX7, ⟨tyX7_ok, nmX7⟩, by decide, rfl, rfl, rfl, Or.inl (zt4 (i := 33) (by decide +kernel) rfl)⟩
theorem fX7_21 : zFl RX7 21 7 3 .int false := ⟨RX7, TX7, 31, tyX7, rfl, zlX7, ⟨tyX7_ok, nmX7⟩, by decide, rfl, rfl, rfl, Or.inl (zt4 (i := 34) (by decide +kernel) rfl)⟩
theorem fX7_24 : zFl RX7 24 7 4 (.array .int) true := ⟨RX7, TX7, 31, tyX7, rfl, zlX7, ⟨tyX7_ok, nmX7⟩, by decide, rfl, rfl, rfl, Or.inl (zt4 (i := 35) (by decide +kernel) rfl)⟩
theorem fX7_27 : zFl RX7 27 7 5 (.array .int) true := ⟨RX7, TX7, 31, tyX7, rfl, zlX7, ⟨tyX7_ok, nmX7⟩, by decide, rfl, rfl, rfl, Or.inl (zt4 (i := 36) (by decide +kernel) rfl)⟩
theorem fX7_30 : zFl RX7 30 7 6 (.array .int) true := ⟨RX7, TX7, 31, tyX7, rfl, zlX7, ⟨tyX7_ok, nmX7⟩, by decide, rfl, rfl, rfl, Or.inl (zt4 (i := 37) (by decide +kernel) rfl)⟩
theorem fX7_33 : zFl RX7 33 7 7 (.array .int) true := ⟨RX7, TX7, 31, tyX7, rfl, zlX7, ⟨tyX7_ok, nmX7⟩, by decide, rfl, rfl, rfl, Or.inl (zt4 (i := 38) (by decide +kernel) rfl)⟩
theorem fX7_36 : zFl RX7 36 7 8 (.array .int) true := ⟨RX7, TX7, 31, tyX7, rfl, zlX7, ⟨tyX7_ok, nmX7⟩, by decide, rfl, rfl, rfl, Or.inl (zt4 (i := 39) (by decide +kernel) rfl)⟩
theorem fX7_39 : zFl RX7 39 7 9 (.array .int) true := ⟨RX7, TX7, 31, tyX7, rfl, zlX7, ⟨tyX7_ok, nmX7⟩, by decide, rfl, rfl, rfl, Or.inl (zt4 (i := 40) (by decide +kernel) rfl)⟩
theorem fX7_72 : zFl RX7 72 7 10 .int false := ⟨RX7, TX7, 31, tyX7, rfl, zlX7, ⟨tyX7_ok, nmX7⟩, by decide, rfl, rfl, rfl, Or.inl (zt4 (i := 41) (by decide +kernel) rfl)⟩
theorem fX7_42 : zFl RX7 42 7 11 (.array .int) true := ⟨RX7, TX7, 31, tyX7, rfl, zlX7, ⟨tyX7_ok, nmX7⟩, by decide, rfl, rfl, rfl, Or.inl (zt4 (i := 42) (by decide +kernel) rfl)⟩
theorem fX7_82 : zFl RX7 82 7 12 .int false := ⟨RX7, TX7, 31, tyX7, rfl, zlX7, ⟨tyX7_ok, nmX7⟩, by decide, rfl, rfl, rfl, Or.inl (zt4 (i := 43) (by decide +kernel) rfl)⟩
theorem fX7_88 : zFl RX7 88 7 13 .int false := ⟨RX7, TX7, 31, tyX7, rfl, zlX7, ⟨tyX7_ok, nmX7⟩, by decide, rfl, rfl, rfl, Or.inl (zt4 (i := 44) (by decide +kernel) rfl)⟩
theorem fX7_98 : zFl RX7 98 7 14 .int false := ⟨RX7, TX7, 31, tyX7, rfl, zlX7, ⟨tyX7_ok, nmX7⟩, by decide, rfl, rfl, rfl, Or.inl (zt4 (i := 45) (by decide +kernel) rfl)⟩
theorem fX7_105 : zFl RX7 105 7 15 .int false := ⟨RX7, TX7, 31, tyX7, rfl, zlX7, ⟨tyX7_ok, nmX7⟩, by decide, rfl, rfl, rfl, Or.inl (zt4 (i := 46) (by decide +kernel) rfl)⟩
theorem fX7_91 : zFl RX7 91 7 16 .int false := ⟨RX7, TX7, 31, tyX7, rfl, zlX7, ⟨tyX7_ok, nmX7⟩, by decide, rfl, rfl, rfl, Or.inl (zt4 (i := 47) (by decide +kernel) rfl)⟩
theorem fX7_45 : zFl RX7 45 7 17 .int false := ⟨RX7, TX7, 31, tyX7, rfl, zlX7, ⟨tyX7_ok, nmX7⟩, by decide, rfl, rfl, rfl, Or.inl (zt4 (i := 48) (by decide +kernel) rfl)⟩
theorem fX7_124 : zFl RX7 124 7 18 .boolean false := ⟨RX7, TX7, 31, tyX7, rfl, zlX7, ⟨tyX7_ok, nmX7⟩, by decide, rfl, rfl, rfl, Or.inl (zt4 (i := 49) (by decide +kernel) rfl)⟩
theorem fX7_132 : zFl RX7 132 7 19 .int false := ⟨RX7, TX7, 31, tyX7, rfl, zlX7, ⟨tyX7_ok, nmX7⟩, by decide, rfl, rfl, rfl, Or.inl (zt4 (i := 50) (by decide +kernel) rfl)⟩
theorem fX7_135 : zFl RX7 135 7 20 .int false := ⟨RX7, TX7, 31, tyX7, rfl, zlX7, ⟨tyX7_ok, nmX7⟩, by decide, rfl, rfl, rfl, Or.inl (zt4 (i := 51) (by decide +kernel) rfl)⟩
theorem fX7_48 : zFl RX7 48 7 21 (.array .int) true := ⟨RX7, TX7, 31, tyX7, rfl, zlX7, ⟨tyX7_ok, nmX7⟩, by decide, rfl, rfl, rfl, Or.inl (zt4 (i := 52) (by decide +kernel) rfl)⟩
theorem fX7_51 : zFl RX7 51 7 22 (.array .int) true := ⟨RX7, TX7, 31, tyX7, rfl, zlX7, ⟨tyX7_ok, nmX7⟩, by decide, rfl, rfl, rfl, Or.inl (zt4 (i := 53) (by decide +kernel) rfl)⟩
theorem fX7_54 : zFl RX7 54 7 23 (.array .int) true := ⟨RX7, TX7, 31, tyX7, rfl, zlX7, ⟨tyX7_ok, nmX7⟩, by decide, rfl, rfl, rfl, Or.inl (zt4 (i := 54) (by decide +kernel) rfl)⟩
theorem fX7_57 : zFl RX7 57 7 24 (.array .int) true := ⟨RX7, TX7, 31, tyX7, rfl, zlX7, ⟨tyX7_ok, nmX7⟩, by decide, rfl, rfl, rfl, Or.inl (zt4 (i := 55) (by decide +kernel) rfl)⟩
theorem fX7_261 : zFl RX7 261 7 25 .int false := ⟨RX7, TX7, 31, tyX7, rfl, zlX7, ⟨tyX7_ok, nmX7⟩, by decide, rfl, rfl, rfl, Or.inl (zt4 (i := 56) (by decide +kernel) rfl)⟩
theorem fX7_60 : zFl RX7 60 7 26 (.array .int) true := ⟨RX7, TX7, 31, tyX7, rfl, zlX7, ⟨tyX7_ok, nmX7⟩, by decide, rfl, rfl, rfl, Or.inl (zt4 (i := 57) (by decide +kernel) rfl)⟩
theorem fX7_63 : zFl RX7 63 7 27 (.array .int) true := ⟨RX7, TX7, 31, tyX7, rfl, zlX7, ⟨tyX7_ok, nmX7⟩, by decide, rfl, rfl, rfl, Or.inl (zt4 (i := 58) (by decide +kernel) rfl)⟩
theorem fX7_66 : zFl RX7 66 7 28 (.array .int) true := ⟨RX7, TX7, 31, tyX7, rfl, zlX7, ⟨tyX7_ok, nmX7⟩, by decide, rfl, rfl, rfl, Or.inl (zt4 (i := 59) (by decide +kernel) rfl)⟩
theorem fX7_69 : zFl RX7 69 7 29 (.array .int) true := ⟨RX7, TX7, 31, tyX7, rfl, zlX7, ⟨tyX7_ok, nmX7⟩, by decide, rfl, rfl, rfl, Or.inl (zt4 (i := 60) (by decide +kernel) rfl)⟩
theorem fX7_147 : zFl RX7 147 7 30 .int false := ⟨RX7, TX7, 31, tyX7, rfl, zlX7, ⟨tyX7_ok, nmX7⟩, by decide, rfl, rfl, rfl, Or.inl (zt4 (i := 61) (by decide +kernel) rfl)⟩
theorem fX6_78 : zFl RX6 78 5 1 .int false := ⟨RX5, TX5, 5, tyX5, rfl, zlX5, ⟨tyX5_ok, nmX5⟩, by decide, rfl, rfl, rfl, Or.inr ⟨"LoftGraves", (List.mem_of_getElem? (i := 1) (by decide +kernel))⟩⟩
theorem fX3_78 : zFl RX3 78 5 2 .int false := ⟨RX5, TX5, 5, tyX5, rfl, zlX5, ⟨tyX5_ok, nmX5⟩, by decide, rfl, rfl, rfl, Or.inr ⟨"LoftGraves", (List.mem_of_getElem? (i := 2) (by decide +kernel))⟩⟩
theorem fX1_44 : zFl RX1 44 5 2 .int false := ⟨RX5, TX5, 5, tyX5, rfl, zlX5, ⟨tyX5_ok, nmX5⟩, by decide, rfl, rfl, rfl, Or.inr ⟨"LoftGraves", (List.mem_of_getElem? (i := 3) (by decide +kernel))⟩⟩
theorem fX6_90 : zFl RX6 90 5 3 .int false := ⟨RX5, TX5, 5, tyX5, rfl, zlX5, ⟨tyX5_ok, nmX5⟩, by decide, rfl, rfl, rfl, Or.inr ⟨"LoftGraves", (List.mem_of_getElem? (i := 4) (by decide +kernel))⟩⟩
theorem fX6_111 : zFl RX6 111 5 4 .int false := ⟨RX5, TX5, 5, tyX5, rfl, zlX5, ⟨tyX5_ok, nmX5⟩, by decide, rfl, rfl, rfl, Or.inr ⟨"LoftGraves", (List.mem_of_getElem? (i := 5) (by decide +kernel))⟩⟩
theorem fX3_149 : zFl RX3 149 1 0 (.array .int) true := ⟨RX1, TX1, 2, tyX1, rfl, zlX1, ⟨tyX1_ok, nmX1⟩, by decide, rfl, rfl, rfl, Or.inr ⟨"LoftGraves", (List.mem_of_getElem? (i := 7) (by decide +kernel))⟩⟩
theorem fX6_110 : zFl RX6 110 1 1 .int false := ⟨RX1, TX1, 2, tyX1, rfl, zlX1, ⟨tyX1_ok, nmX1⟩, by decide, rfl, rfl, rfl, Or.inr ⟨"LoftGraves", (List.mem_of_getElem? (i := 8) (by decide +kernel))⟩⟩
theorem fX3_142 : zFl RX3 142 1 1 .int false := ⟨RX1, TX1, 2, tyX1, rfl, zlX1, ⟨tyX1_ok, nmX1⟩, by decide, rfl, rfl, rfl, Or.inr ⟨"LoftGraves", (List.mem_of_getElem? (i := 9) (by decide +kernel))⟩⟩
theorem fX6_114 : zFl RX6 114 3 0 .int false := ⟨RX3, TX3, 16, tyX3, rfl, zlX3, ⟨tyX3_ok, nmX3⟩, by decide, rfl, rfl, rfl, Or.inr ⟨"LoftGraves", (List.mem_of_getElem? (i := 11) (by decide +kernel))⟩⟩
theorem fX2_15 : zFl RX2 15 3 1 .int false := ⟨RX3, TX3, 16, tyX3, rfl, zlX3, ⟨tyX3_ok, nmX3⟩, by decide, rfl, rfl, rfl, Or.inr ⟨"LoftGraves", (List.mem_of_getElem? (i := 12) (by decide +kernel))⟩⟩
theorem fX6_103 : zFl RX6 103 3 1 .int false := ⟨RX3, TX3, 16, tyX3, rfl, zlX3, ⟨tyX3_ok, nmX3⟩, by decide, rfl, rfl, rfl, Or.inr ⟨"LoftGraves", (List.mem_of_getElem? (i := 13) (by decide +kernel))⟩⟩
theorem fX6_117 : zFl RX6 117 3 2 .int false := ⟨RX3, TX3, 16, tyX3, rfl, zlX3, ⟨tyX3_ok, nmX3⟩, by decide, rfl, rfl, rfl, Or.inr ⟨"LoftGraves", (List.mem_of_getElem? (i := 14) (by decide +kernel))⟩⟩
theorem fX6_120 : zFl RX6 120 3 3 .int false := ⟨RX3, TX3, 16, tyX3, rfl, zlX3, ⟨tyX3_ok, nmX3⟩, by decide, rfl, rfl, rfl, Or.inr ⟨"LoftGraves", (List.mem_of_getElem? (i := 15) (by decide +kernel))⟩⟩
theorem fX6_138 : zFl RX6 138 3 4 (.array .int) true := ⟨RX3, TX3, 16, tyX3, rfl, zlX3, ⟨tyX3_ok, nmX3⟩, by decide, rfl, rfl, rfl, Or.inr ⟨"LoftGraves", (List.mem_of_getElem? (i := 16) (by decide +kernel))⟩⟩
theorem fX6_153 : zFl RX6 153 3 5 (.array .int) true := ⟨RX3, TX3, 16, tyX3, rfl, zlX3, ⟨tyX3_ok, nmX3⟩, by decide, rfl, rfl, rfl, Or.inr ⟨"LoftGraves", (List.mem_of_getElem? (i := 17) (by decide +kernel))⟩⟩
theorem fX6_156 : zFl RX6 156 3 6 (.array .int) true := ⟨RX3, TX3, 16, tyX3, rfl, zlX3, ⟨tyX3_ok, nmX3⟩, by decide, rfl, rfl, rfl, Or.inr ⟨"LoftGraves", (List.mem_of_getElem? (i := 18) (by decide +kernel))⟩⟩
theorem fX4_57 : zFl RX4 57 3 7 (.array .int) true := ⟨RX3, TX3, 16, tyX3, rfl, zlX3, ⟨tyX3_ok, nmX3⟩, by decide, rfl, rfl, rfl, Or.inr ⟨"LoftGraves", (List.mem_of_getElem? (i := 19) (by decide +kernel))⟩⟩
theorem fX6_159 : zFl RX6 159 3 7 (.array .int) true := ⟨RX3, TX3, 16, tyX3, rfl, zlX3, ⟨tyX3_ok, nmX3⟩, by decide, rfl, rfl, rfl, Or.inr ⟨"LoftGraves", (List.mem_of_getElem? (i := 20) (by decide +kernel))⟩⟩
theorem fX6_162 : zFl RX6 162 3 8 (.array .int) true := ⟨RX3, TX3, 16, tyX3, rfl, zlX3, ⟨tyX3_ok, nmX3⟩, by decide, rfl, rfl, rfl, Or.inr ⟨"LoftGraves", (List.mem_of_getElem? (i := 21) (by decide +kernel))⟩⟩
theorem fX6_165 : zFl RX6 165 3 9 (.array .int) true := ⟨RX3, TX3, 16, tyX3, rfl, zlX3, ⟨tyX3_ok, nmX3⟩, by decide, rfl, rfl, rfl, Or.inr ⟨"LoftGraves", (List.mem_of_getElem? (i := 22) (by decide +kernel))⟩⟩
theorem fX4_42 : zFl RX4 42 3 10 (.array .int) true := ⟨RX3, TX3, 16, tyX3, rfl, zlX3, ⟨tyX3_ok, nmX3⟩, by decide, rfl, rfl, rfl, Or.inr ⟨"LoftGraves", (List.mem_of_getElem? (i := 23) (by decide +kernel))⟩⟩
theorem fX6_168 : zFl RX6 168 3 10 (.array .int) true := ⟨RX3, TX3, 16, tyX3, rfl, zlX3, ⟨tyX3_ok, nmX3⟩, by decide, rfl, rfl, rfl, Or.inr ⟨"LoftGraves", (List.mem_of_getElem? (i := 24) (by decide +kernel))⟩⟩
theorem fX2_58 : zFl RX2 58 3 11 (.array .int) true := ⟨RX3, TX3, 16, tyX3, rfl, zlX3, ⟨tyX3_ok, nmX3⟩, by decide, rfl, rfl, rfl, Or.inr ⟨"LoftGraves", (List.mem_of_getElem? (i := 25) (by decide +kernel))⟩⟩
theorem fX6_178 : zFl RX6 178 3 11 (.array .int) true := ⟨RX3, TX3, 16, tyX3, rfl, zlX3, ⟨tyX3_ok, nmX3⟩, by decide, rfl, rfl, rfl, Or.inr ⟨"LoftGraves", (List.mem_of_getElem? (i := 26) (by decide +kernel))⟩⟩
theorem fX2_29 : zFl RX2 29 3 12 (.array .int) true := ⟨RX3, TX3, 16, tyX3, rfl, zlX3, ⟨tyX3_ok, nmX3⟩, by decide, rfl, rfl, rfl, Or.inr ⟨"LoftGraves", (List.mem_of_getElem? (i := 27) (by decide +kernel))⟩⟩
theorem fX6_181 : zFl RX6 181 3 12 (.array .int) true := ⟨RX3, TX3, 16, tyX3, rfl, zlX3, ⟨tyX3_ok, nmX3⟩, by decide, rfl, rfl, rfl, Or.inr ⟨"LoftGraves", (List.mem_of_getElem? (i := 28) (by decide +kernel))⟩⟩
theorem fX6_171 : zFl RX6 171 3 13 .int false := ⟨RX3, TX3, 16, tyX3, rfl, zlX3, ⟨tyX3_ok, nmX3⟩, by decide, rfl, rfl, rfl, Or.inr ⟨"LoftGraves", (List.mem_of_getElem? (i := 29) (by decide +kernel))⟩⟩
theorem fX6_130 : zFl RX6 130 3 14 .int false := ⟨RX3, TX3, 16, tyX3, rfl, zlX3, ⟨tyX3_ok, nmX3⟩, by decide, rfl, rfl, rfl, Or.inr ⟨"LoftGraves", (List.mem_of_getElem? (i := 30) (by decide +kernel))⟩⟩
theorem fX6_93 : zFl RX6 93 3 15 .int false := ⟨RX3, TX3, 16, tyX3, rfl, zlX3, ⟨tyX3_ok, nmX3⟩, by decide, rfl, rfl, rfl, Or.inr ⟨"LoftGraves", (List.mem_of_getElem? (i := 31) (by decide +kernel))⟩⟩
theorem fX6_295 : zFl RX6 295 0 0 (.array .int) true := ⟨RX0, TX0, 3, tyX0, rfl, zlX0, ⟨tyX0_ok, nmX0⟩, by decide, rfl, rfl, rfl, Or.inr ⟨"LoftGraves", (List.mem_of_getElem? (i := 33) (by decide +kernel))⟩⟩
theorem fX6_298 : zFl RX6 298 0 1 (.array .int) true := ⟨RX0, TX0, 3, tyX0, rfl, zlX0, ⟨tyX0_ok, nmX0⟩, by decide, rfl, rfl, rfl, Or.inr ⟨"LoftGraves", (List.mem_of_getElem? (i := 34) (by decide +kernel))⟩⟩
theorem fX6_100 : zFl RX6 100 0 2 .int false := ⟨RX0, TX0, 3, tyX0, rfl, zlX0, ⟨tyX0_ok, nmX0⟩, by decide, rfl, rfl, rfl, Or.inr ⟨"LoftGraves", (List.mem_of_getElem? (i := 35) (by decide +kernel))⟩⟩
theorem fX6_261 : zFl RX6 261 4 3 (.array .int) true := ⟨RX4, TX4, 6, tyX4, rfl, zlX4, ⟨tyX4_ok, nmX4⟩, by decide, rfl, rfl, rfl, Or.inr ⟨"LoftGraves", (List.mem_of_getElem? (i := 37) (by decide +kernel))⟩⟩
theorem fX6_258 : zFl RX6 258 4 4 .int false := ⟨RX4, TX4, 6, tyX4, rfl, zlX4, ⟨tyX4_ok, nmX4⟩, by decide, rfl, rfl, rfl, Or.inr ⟨"LoftGraves", (List.mem_of_getElem? (i := 38) (by decide +kernel))⟩⟩
theorem fX6_255 : zFl RX6 255 4 5 .boolean false := ⟨RX4, TX4, 6, tyX4, rfl, zlX4, ⟨tyX4_ok, nmX4⟩, by decide, rfl, rfl, rfl, Or.inr ⟨"LoftGraves", (List.mem_of_getElem? (i := 39) (by decide +kernel))⟩⟩
theorem kL_9 : zCallI RL 9 MX6_init 0 := ⟨⟨(zt1 (i := 19) (by decide +kernel) rfl), (zt1 (i := 1) (by decide +kernel) rfl), ⟨by decide +kernel, by decide +kernel, by decide +kernel⟩, by decide, Or.inl (zt1 (i := 17) (by decide +kernel) rfl)⟩, (zt1 (i := 18) (by decide +kernel) rfl), rfl, rfl⟩
theorem oX6_1 : Cond.methodLink RX6 1 Lib.objectInit ∈ zT := (zt1 (i := 20) (by decide +kernel) rfl)
theorem oX5_3 : Cond.methodLink RX5 3 Lib.objectInit ∈ zT := (zt1 (i := 28) (by decide +kernel) rfl)
theorem oX1_3 : Cond.methodLink RX1 3 Lib.objectInit ∈ zT := (zt1 (i := 56) (by decide +kernel) rfl)
theorem oX3_3 : Cond.methodLink RX3 3 Lib.objectInit ∈ zT := (zt1 (i := 73) (by decide +kernel) rfl)
theorem oX0_3 : Cond.methodLink RX0 3 Lib.objectInit ∈ zT := (zt1 (i := 149) (by decide +kernel) rfl)
theorem oX4_3 : Cond.methodLink RX4 3 Lib.objectInit ∈ zT := (zt1 (i := 168) (by decide +kernel) rfl)
theorem oX2_3 : Cond.methodLink RX2 3 Lib.objectInit ∈ zT := (zt1 (i := 196) (by decide +kernel) rfl)
theorem kX6_199 : zCallS RX6 199 MX6_bit 1 := ⟨⟨(zt1 (i := 218) (by decide +kernel) rfl), (zt1 (i := 1) (by decide +kernel) rfl), ⟨by decide +kernel, by decide +kernel, by decide +kernel⟩, by decide, Or.inl (zt1 (i := 216) (by decide +kernel) rfl)⟩, (zt1 (i := 217) (by decide +kernel) rfl)⟩
theorem kL_15 : zCallV RL 15 MX6_feed 2 := ⟨⟨(zt2 (i := 19) (by decide +kernel) rfl), (zt1 (i := 1) (by decide +kernel) rfl), ⟨by decide +kernel, by decide +kernel, by decide +kernel⟩, by decide, Or.inl (zt2 (i := 16) (by decide +kernel) rfl)⟩, (zt2 (i := 17) (by decide +kernel) rfl), (zt2 (i := 18) (by decide +kernel) rfl)⟩
theorem kL_20 : zCallV RL 20 MX6_parish 0 := ⟨⟨(zt2 (i := 29) (by decide +kernel) rfl), (zt1 (i := 1) (by decide +kernel) rfl), ⟨by decide +kernel, by decide +kernel, by decide +kernel⟩, by decide, Or.inl (zt2 (i := 26) (by decide +kernel) rfl)⟩, (zt2 (i := 27) (by decide +kernel) rfl), (zt2 (i := 28) (by decide +kernel) rfl)⟩
theorem kX5_32 : zCallV RX5 32 MX5_skipBlanks 0 := ⟨⟨(zt2 (i := 45) (by decide +kernel) rfl), (zt1 (i := 2) (by decide +kernel) rfl), ⟨by decide +kernel, by decide +kernel, by decide +kernel⟩, by decide, Or.inl (zt2 (i := 42) (by decide +kernel) rfl)⟩, (zt2 (i := 44) (by decide +kernel) rfl), (ztp (i := 6) (by decide +kernel) rfl)⟩
theorem kX5_28 : zCallV RX5 28 MX5_byteAt 1 := ⟨⟨(zt2 (i := 49) (by decide +kernel) rfl), (zt1 (i := 2) (by decide +kernel) rfl), ⟨by decide +kernel, by decide +kernel, by decide +kernel⟩, by decide, Or.inl (zt2 (i := 46) (by decide +kernel) rfl)⟩, (zt2 (i := 48) (by decide +kernel) rfl), (ztp (i := 7) (by decide +kernel) rfl)⟩
theorem kX3_74 : zCallV RX3 74 MX3_readClause 1 := ⟨⟨(zt2 (i := 53) (by decide +kernel) rfl), (zt1 (i := 4) (by decide +kernel) rfl), ⟨by decide +kernel, by decide +kernel, by decide +kernel⟩, by decide, Or.inl (zt2 (i := 50) (by decide +kernel) rfl)⟩, (zt2 (i := 52) (by decide +kernel) rfl), (ztp (i := 8) (by decide +kernel) rfl)⟩
theorem kX5_35 : zCallV RX5 35 MJ0_length_8abf5 0 := ⟨⟨(zt2 (i := 62) (by decide +kernel) rfl), (zt1 (i := 9) (by decide +kernel) rfl), ⟨by decide +kernel, by decide +kernel, by decide +kernel⟩, by decide, Or.inl (zt2 (i := 59) (by decide +kernel) rfl)⟩, (zt2 (i := 60) (by decide +kernel) rfl), (zt2 (i := 61) (by decide +kernel) rfl)⟩
theorem kJ0_335 : zCallV RJ0 335 MJ0_coder_7d493 0 := ⟨⟨(zt2 (i := 66) (by decide +kernel) rfl), (zt1 (i := 9) (by decide +kernel) rfl), ⟨by decide +kernel, by decide +kernel, by decide +kernel⟩, by decide, Or.inl (zt2 (i := 63) (by decide +kernel) rfl)⟩, (zt2 (i := 64) (by decide +kernel) rfl), (zt2 (i := 65) (by decide +kernel) rfl)⟩
theorem kX5_40 : zCallV RX5 40 MJ0_charAt_5068e 1 := ⟨⟨(zt2 (i := 72) (by decide +kernel) rfl), (zt1 (i := 9) (by decide +kernel) rfl), ⟨by decide +kernel, by decide +kernel, by decide +kernel⟩, by decide, Or.inl (zt2 (i := 69) (by decide +kernel) rfl)⟩, (zt2 (i := 70) (by decide +kernel) rfl), (zt2 (i := 71) (by decide +kernel) rfl)⟩
theorem kJ0_492 : zCallV RJ0 492 MJ0_isLatin1_aae02 0 := ⟨⟨(zt2 (i := 76) (by decide +kernel) rfl), (zt1 (i := 9) (by decide +kernel) rfl), ⟨by decide +kernel, by decide +kernel, by decide +kernel⟩, by decide, Or.inl (zt2 (i := 73) (by decide +kernel) rfl)⟩, (zt2 (i := 74) (by decide +kernel) rfl), (zt2 (i := 75) (by decide +kernel) rfl)⟩
theorem kJ0_495 : zCallS RJ0 495 MJ1_charAt_3b067 2 := ⟨⟨(zt2 (i := 79) (by decide +kernel) rfl), (zt1 (i := 10) (by decide +kernel) rfl), ⟨by decide +kernel, by decide +kernel, by decide +kernel⟩, by decide, Or.inl (zt2 (i := 77) (by decide +kernel) rfl)⟩, (zt2 (i := 78) (by decide +kernel) rfl)⟩
theorem kJ1_9 : zCallS RJ1 9 MJ0_checkIndex_df160 2 := ⟨⟨(zt2 (i := 82) (by decide +kernel) rfl), (zt1 (i := 9) (by decide +kernel) rfl), ⟨by decide +kernel, by decide +kernel, by decide +kernel⟩, by decide, Or.inl (zt2 (i := 80) (by decide +kernel) rfl)⟩, (zt2 (i := 81) (by decide +kernel) rfl)⟩
theorem kJ0_1059 : zCallS RJ0 1059 MJ3_checkIndex_8e157 3 := ⟨⟨(zt2 (i := 87) (by decide +kernel) rfl), (zt1 (i := 11) (by decide +kernel) rfl), ⟨by decide +kernel, by decide +kernel, by decide +kernel⟩, by decide, Or.inl (zt2 (i := 85) (by decide +kernel) rfl)⟩, (zt2 (i := 86) (by decide +kernel) rfl)⟩
theorem kJ0_498 : zCallS RJ0 498 MJ2_charAt_3b067 2 := ⟨⟨(zt2 (i := 90) (by decide +kernel) rfl), (zt1 (i := 12) (by decide +kernel) rfl), ⟨by decide +kernel, by decide +kernel, by decide +kernel⟩, by decide, Or.inl (zt2 (i := 88) (by decide +kernel) rfl)⟩, (zt2 (i := 89) (by decide +kernel) rfl)⟩
theorem kJ2_67 : zCallS RJ2 67 MJ2_checkIndex_2214a 2 := ⟨⟨(zt2 (i := 93) (by decide +kernel) rfl), (zt1 (i := 12) (by decide +kernel) rfl), ⟨by decide +kernel, by decide +kernel, by decide +kernel⟩, by decide, Or.inl (zt2 (i := 91) (by decide +kernel) rfl)⟩, (zt2 (i := 92) (by decide +kernel) rfl)⟩
theorem kJ2_48 : zCallS RJ2 48 MJ2_length_9d52b 1 := ⟨⟨(zt2 (i := 96) (by decide +kernel) rfl), (zt1 (i := 12) (by decide +kernel) rfl), ⟨by decide +kernel, by decide +kernel, by decide +kernel⟩, by decide, Or.inl (zt2 (i := 94) (by decide +kernel) rfl)⟩, (zt2 (i := 95) (by decide +kernel) rfl)⟩
theorem kJ2_414 : zCallS RJ2 414 MJ0_checkIndex_df160 2 := ⟨⟨(zt2 (i := 82) (by decide +kernel) rfl), (zt1 (i := 9) (by decide +kernel) rfl), ⟨by decide +kernel, by decide +kernel, by decide +kernel⟩, by decide, Or.inl (zt2 (i := 97) (by decide +kernel) rfl)⟩, (zt2 (i := 81) (by decide +kernel) rfl)⟩
theorem kJ2_71 : zCallS RJ2 71 MJ2_getChar_3b067 2 := ⟨⟨(zt2 (i := 100) (by decide +kernel) rfl), (zt1 (i := 12) (by decide +kernel) rfl), ⟨by decide +kernel, by decide +kernel, by decide +kernel⟩, by decide, Or.inl (zt2 (i := 98) (by decide +kernel) rfl)⟩, (zt2 (i := 99) (by decide +kernel) rfl)⟩
theorem kX3_86 : zCallV RX3 86 MX3_readSun 2 := ⟨⟨(zt2 (i := 110) (by decide +kernel) rfl), (zt1 (i := 4) (by decide +kernel) rfl), ⟨by decide +kernel, by decide +kernel, by decide +kernel⟩, by decide, Or.inl (zt2 (i := 107) (by decide +kernel) rfl)⟩, (zt2 (i := 109) (by decide +kernel) rfl), (ztp (i := 10) (by decide +kernel) rfl)⟩
theorem kX5_44 : zCallV RX5 44 MX5_blame 2 := ⟨⟨(zt2 (i := 114) (by decide +kernel) rfl), (zt1 (i := 2) (by decide +kernel) rfl), ⟨by decide +kernel, by decide +kernel, by decide +kernel⟩, by decide, Or.inl (zt2 (i := 119) (by decide +kernel) rfl)⟩, (zt2 (i := 113) (by decide +kernel) rfl), (ztp (i := 11) (by decide +kernel) rfl)⟩
theorem kX3_92 : zCallV RX3 92 MX3_readYard 2 := ⟨⟨(zt2 (i := 128) (by decide +kernel) rfl), (zt1 (i := 4) (by decide +kernel) rfl), ⟨by decide +kernel, by decide +kernel, by decide +kernel⟩, by decide, Or.inl (zt2 (i := 125) (by decide +kernel) rfl)⟩, (zt2 (i := 127) (by decide +kernel) rfl), (ztp (i := 14) (by decide +kernel) rfl)⟩
theorem kX3_96 : zCallV RX3 96 MX3_readDead 2 := ⟨⟨(zt2 (i := 133) (by decide +kernel) rfl), (zt1 (i := 4) (by decide +kernel) rfl), ⟨by decide +kernel, by decide +kernel, by decide +kernel⟩, by decide, Or.inl (zt2 (i := 130) (by decide +kernel) rfl)⟩, (zt2 (i := 132) (by decide +kernel) rfl), (ztp (i := 15) (by decide +kernel) rfl)⟩
theorem kX6_142 : zCallS RX6 142 MX6_at 2 := ⟨⟨(zt2 (i := 143) (by decide +kernel) rfl), (zt1 (i := 1) (by decide +kernel) rfl), ⟨by decide +kernel, by decide +kernel, by decide +kernel⟩, by decide, Or.inl (zt2 (i := 141) (by decide +kernel) rfl)⟩, (zt2 (i := 142) (by decide +kernel) rfl)⟩
theorem kX6_188 : zCallS RX6 188 MX6_put 3 := ⟨⟨(zt1 (i := 207) (by decide +kernel) rfl), (zt1 (i := 1) (by decide +kernel) rfl), ⟨by decide +kernel, by decide +kernel, by decide +kernel⟩, by decide, Or.inl (zt2 (i := 144) (by decide +kernel) rfl)⟩, (zt1 (i := 206) (by decide +kernel) rfl)⟩
theorem kL_25 : zCallV RL 25 MX6_custom 0 := ⟨⟨(zt2 (i := 148) (by decide +kernel) rfl), (zt1 (i := 1) (by decide +kernel) rfl), ⟨by decide +kernel, by decide +kernel, by decide +kernel⟩, by decide, Or.inl (zt2 (i := 145) (by decide +kernel) rfl)⟩, (zt2 (i := 146) (by decide +kernel) rfl), (zt2 (i := 147) (by decide +kernel) rfl)⟩
theorem kX1_40 : zCallV RX1 40 MX1_readClause 1 := ⟨⟨(zt2 (i := 158) (by decide +kernel) rfl), (zt1 (i := 3) (by decide +kernel) rfl), ⟨by decide +kernel, by decide +kernel, by decide +kernel⟩, by decide, Or.inl (zt2 (i := 155) (by decide +kernel) rfl)⟩, (zt2 (i := 157) (by decide +kernel) rfl), (ztp (i := 18) (by decide +kernel) rfl)⟩
theorem kX1_63 : zCallV RX1 63 MX1_counts 1 := ⟨⟨(zt2 (i := 168) (by decide +kernel) rfl), (zt1 (i := 3) (by decide +kernel) rfl), ⟨by decide +kernel, by decide +kernel, by decide +kernel⟩, by decide, Or.inl (zt2 (i := 165) (by decide +kernel) rfl)⟩, (zt2 (i := 167) (by decide +kernel) rfl), (ztp (i := 19) (by decide +kernel) rfl)⟩
theorem kX1_67 : zCallV RX1 67 MX1_add 1 := ⟨⟨(zt1 (i := 204) (by decide +kernel) rfl), (zt1 (i := 3) (by decide +kernel) rfl), ⟨by decide +kernel, by decide +kernel, by decide +kernel⟩, by decide, Or.inl (zt2 (i := 170) (by decide +kernel) rfl)⟩, (zt1 (i := 203) (by decide +kernel) rfl), (ztp (i := 0) (by decide +kernel) rfl)⟩
theorem kL_29 : zCallV RL 29 MX6_fault 0 := ⟨⟨(zt2 (i := 180) (by decide +kernel) rfl), (zt1 (i := 1) (by decide +kernel) rfl), ⟨by decide +kernel, by decide +kernel, by decide +kernel⟩, by decide, Or.inl (zt2 (i := 177) (by decide +kernel) rfl)⟩, (zt2 (i := 178) (by decide +kernel) rfl), (zt2 (i := 179) (by decide +kernel) rfl)⟩
theorem kL_33 : zCallV RL 33 MX6_told 1 := ⟨⟨(zt2 (i := 184) (by decide +kernel) rfl), (zt1 (i := 1) (by decide +kernel) rfl), ⟨by decide +kernel, by decide +kernel, by decide +kernel⟩, by decide, Or.inl (zt2 (i := 181) (by decide +kernel) rfl)⟩, (zt2 (i := 182) (by decide +kernel) rfl), (zt2 (i := 183) (by decide +kernel) rfl)⟩
theorem kX3_125 : zCallV RX3 125 MX3_laid 0 := ⟨⟨(zt2 (i := 192) (by decide +kernel) rfl), (zt1 (i := 4) (by decide +kernel) rfl), ⟨by decide +kernel, by decide +kernel, by decide +kernel⟩, by decide, Or.inl (zt2 (i := 189) (by decide +kernel) rfl)⟩, (zt2 (i := 191) (by decide +kernel) rfl), (ztp (i := 22) (by decide +kernel) rfl)⟩
theorem kL_38 : zCallV RL 38 MX6_yard 2 := ⟨⟨(zt2 (i := 199) (by decide +kernel) rfl), (zt1 (i := 1) (by decide +kernel) rfl), ⟨by decide +kernel, by decide +kernel, by decide +kernel⟩, by decide, Or.inl (zt2 (i := 196) (by decide +kernel) rfl)⟩, (zt2 (i := 197) (by decide +kernel) rfl), (zt2 (i := 198) (by decide +kernel) rfl)⟩
theorem kL_43 : zCallV RL 43 MX6_dead 2 := ⟨⟨(zt2 (i := 212) (by decide +kernel) rfl), (zt1 (i := 1) (by decide +kernel) rfl), ⟨by decide +kernel, by decide +kernel, by decide +kernel⟩, by decide, Or.inl (zt2 (i := 209) (by decide +kernel) rfl)⟩, (zt2 (i := 210) (by decide +kernel) rfl), (zt2 (i := 211) (by decide +kernel) rfl)⟩
theorem kX6_174 : zCallS RX6 174 MX6_has 2 := ⟨⟨(zt2 (i := 219) (by decide +kernel) rfl), (zt1 (i := 1) (by decide +kernel) rfl), ⟨by decide +kernel, by decide +kernel, by decide +kernel⟩, by decide, Or.inl (zt2 (i := 217) (by decide +kernel) rfl)⟩, (zt2 (i := 218) (by decide +kernel) rfl)⟩
theorem kL_47 : zCallV RL 47 MX6_order 1 := ⟨⟨(zt2 (i := 223) (by decide +kernel) rfl), (zt1 (i := 1) (by decide +kernel) rfl), ⟨by decide +kernel, by decide +kernel, by decide +kernel⟩, by decide, Or.inl (zt2 (i := 220) (by decide +kernel) rfl)⟩, (zt2 (i := 221) (by decide +kernel) rfl), (zt2 (i := 222) (by decide +kernel) rfl)⟩
theorem kX3_165 : zCallV RX3 165 MX3_urgentClaim 2 := ⟨⟨(zt2 (i := 231) (by decide +kernel) rfl), (zt1 (i := 4) (by decide +kernel) rfl), ⟨by decide +kernel, by decide +kernel, by decide +kernel⟩, by decide, Or.inl (zt2 (i := 228) (by decide +kernel) rfl)⟩, (zt2 (i := 230) (by decide +kernel) rfl), (ztp (i := 27) (by decide +kernel) rfl)⟩
theorem kX3_159 : zCallV RX3 159 MX3_claim 2 := ⟨⟨(zt2 (i := 235) (by decide +kernel) rfl), (zt1 (i := 4) (by decide +kernel) rfl), ⟨by decide +kernel, by decide +kernel, by decide +kernel⟩, by decide, Or.inl (zt2 (i := 232) (by decide +kernel) rfl)⟩, (zt2 (i := 234) (by decide +kernel) rfl), (ztp (i := 28) (by decide +kernel) rfl)⟩
theorem kX3_152 : zCallV RX3 152 MX3_worth 2 := ⟨⟨(zt3 (i := 0) (by decide +kernel) rfl), (zt1 (i := 4) (by decide +kernel) rfl), ⟨by decide +kernel, by decide +kernel, by decide +kernel⟩, by decide, Or.inl (zt2 (i := 237) (by decide +kernel) rfl)⟩, (zt2 (i := 239) (by decide +kernel) rfl), (ztp (i := 29) (by decide +kernel) rfl)⟩
theorem kL_51 : zCallV RL 51 MX6_letter 2 := ⟨⟨(zt3 (i := 8) (by decide +kernel) rfl), (zt1 (i := 1) (by decide +kernel) rfl), ⟨by decide +kernel, by decide +kernel, by decide +kernel⟩, by decide, Or.inl (zt3 (i := 5) (by decide +kernel) rfl)⟩, (zt3 (i := 6) (by decide +kernel) rfl), (zt3 (i := 7) (by decide +kernel) rfl)⟩
theorem kL_55 : zCallV RL 55 MX6_gift 2 := ⟨⟨(zt3 (i := 12) (by decide +kernel) rfl), (zt1 (i := 1) (by decide +kernel) rfl), ⟨by decide +kernel, by decide +kernel, by decide +kernel⟩, by decide, Or.inl (zt3 (i := 9) (by decide +kernel) rfl)⟩, (zt3 (i := 10) (by decide +kernel) rfl), (zt3 (i := 11) (by decide +kernel) rfl)⟩
theorem lX6_193 : Cond.methodLink RX6 193 Lib.Math.min.name ∈ zT := (zt3 (i := 14) (by decide +kernel) rfl)
theorem kL_59 : zCallV RL 59 MX6_knock 1 := ⟨⟨(zt3 (i := 20) (by decide +kernel) rfl), (zt1 (i := 1) (by decide +kernel) rfl), ⟨by decide +kernel, by decide +kernel, by decide +kernel⟩, by decide, Or.inl (zt3 (i := 17) (by decide +kernel) rfl)⟩, (zt3 (i := 18) (by decide +kernel) rfl), (zt3 (i := 19) (by decide +kernel) rfl)⟩
theorem kL_63 : zCallV RL 63 MX6_day 1 := ⟨⟨(zt3 (i := 24) (by decide +kernel) rfl), (zt1 (i := 1) (by decide +kernel) rfl), ⟨by decide +kernel, by decide +kernel, by decide +kernel⟩, by decide, Or.inl (zt3 (i := 21) (by decide +kernel) rfl)⟩, (zt3 (i := 22) (by decide +kernel) rfl), (zt3 (i := 23) (by decide +kernel) rfl)⟩
theorem kX3_132 : zCallV RX3 132 MX3_taken 0 := ⟨⟨(zt3 (i := 32) (by decide +kernel) rfl), (zt1 (i := 4) (by decide +kernel) rfl), ⟨by decide +kernel, by decide +kernel, by decide +kernel⟩, by decide, Or.inl (zt3 (i := 29) (by decide +kernel) rfl)⟩, (zt3 (i := 31) (by decide +kernel) rfl), (ztp (i := 31) (by decide +kernel) rfl)⟩
theorem kX3_175 : zCallV RX3 175 MX3_thawOf 2 := ⟨⟨(zt3 (i := 36) (by decide +kernel) rfl), (zt1 (i := 4) (by decide +kernel) rfl), ⟨by decide +kernel, by decide +kernel, by decide +kernel⟩, by decide, Or.inl (zt3 (i := 33) (by decide +kernel) rfl)⟩, (zt3 (i := 35) (by decide +kernel) rfl), (ztp (i := 32) (by decide +kernel) rfl)⟩
theorem lX3_170 : Cond.methodLink RX3 170 Lib.Math.max.name ∈ zT := (zt3 (i := 37) (by decide +kernel) rfl)
theorem lX3_178 : Cond.methodLink RX3 178 Lib.Math.min.name ∈ zT := (zt3 (i := 40) (by decide +kernel) rfl)
theorem kX3_135 : zCallV RX3 135 MX3_waiting 0 := ⟨⟨(zt2 (i := 188) (by decide +kernel) rfl), (zt1 (i := 4) (by decide +kernel) rfl), ⟨by decide +kernel, by decide +kernel, by decide +kernel⟩, by decide, Or.inl (zt3 (i := 41) (by decide +kernel) rfl)⟩, (zt2 (i := 187) (by decide +kernel) rfl), (ztp (i := 21) (by decide +kernel) rfl)⟩
theorem kL_67 : zCallV RL 67 MX6_rats 2 := ⟨⟨(zt3 (i := 49) (by decide +kernel) rfl), (zt1 (i := 1) (by decide +kernel) rfl), ⟨by decide +kernel, by decide +kernel, by decide +kernel⟩, by decide, Or.inl (zt3 (i := 46) (by decide +kernel) rfl)⟩, (zt3 (i := 47) (by decide +kernel) rfl), (zt3 (i := 48) (by decide +kernel) rfl)⟩
theorem kX3_188 : zCallV RX3 188 MX3_draw 1 := ⟨⟨(zt3 (i := 57) (by decide +kernel) rfl), (zt1 (i := 4) (by decide +kernel) rfl), ⟨by decide +kernel, by decide +kernel, by decide +kernel⟩, by decide, Or.inl (zt3 (i := 54) (by decide +kernel) rfl)⟩, (zt3 (i := 56) (by decide +kernel) rfl), (ztp (i := 35) (by decide +kernel) rfl)⟩
theorem kL_71 : zCallV RL 71 MX6_lay 2 := ⟨⟨(zt3 (i := 69) (by decide +kernel) rfl), (zt1 (i := 1) (by decide +kernel) rfl), ⟨by decide +kernel, by decide +kernel, by decide +kernel⟩, by decide, Or.inl (zt3 (i := 66) (by decide +kernel) rfl)⟩, (zt3 (i := 67) (by decide +kernel) rfl), (zt3 (i := 68) (by decide +kernel) rfl)⟩
theorem kL_75 : zCallV RL 75 MX6_spring 2 := ⟨⟨(zt3 (i := 78) (by decide +kernel) rfl), (zt1 (i := 1) (by decide +kernel) rfl), ⟨by decide +kernel, by decide +kernel, by decide +kernel⟩, by decide, Or.inl (zt3 (i := 75) (by decide +kernel) rfl)⟩, (zt3 (i := 76) (by decide +kernel) rfl), (zt3 (i := 77) (by decide +kernel) rfl)⟩
theorem kX6_223 : zCallV RX6 223 MX6_useSpades 1 := ⟨⟨(zt3 (i := 83) (by decide +kernel) rfl), (zt1 (i := 1) (by decide +kernel) rfl), ⟨by decide +kernel, by decide +kernel, by decide +kernel⟩, by decide, Or.inl (zt3 (i := 80) (by decide +kernel) rfl)⟩, (zt3 (i := 82) (by decide +kernel) rfl), (ztp (i := 38) (by decide +kernel) rfl)⟩
theorem kX3_129 : zCallV RX3 129 MX3_soft 0 := ⟨⟨(zt3 (i := 45) (by decide +kernel) rfl), (zt1 (i := 4) (by decide +kernel) rfl), ⟨by decide +kernel, by decide +kernel, by decide +kernel⟩, by decide, Or.inl (zt3 (i := 93) (by decide +kernel) rfl)⟩, (zt3 (i := 44) (by decide +kernel) rfl), (ztp (i := 33) (by decide +kernel) rfl)⟩
theorem kX6_238 : zCallS RX6 238 MJ6_numberOfTrailingZeros_0f7a4 1 := ⟨⟨(zt3 (i := 96) (by decide +kernel) rfl), (zt1 (i := 14) (by decide +kernel) rfl), ⟨by decide +kernel, by decide +kernel, by decide +kernel⟩, by decide, Or.inl (zt3 (i := 94) (by decide +kernel) rfl)⟩, (zt3 (i := 95) (by decide +kernel) rfl)⟩
theorem kX6_226 : zCallS RX6 226 MJ6_bitCount_0f7a4 1 := ⟨⟨(zt3 (i := 100) (by decide +kernel) rfl), (zt1 (i := 14) (by decide +kernel) rfl), ⟨by decide +kernel, by decide +kernel, by decide +kernel⟩, by decide, Or.inl (zt3 (i := 98) (by decide +kernel) rfl)⟩, (zt3 (i := 99) (by decide +kernel) rfl)⟩
theorem kL_79 : zCallV RL 79 MX6_offended 1 := ⟨⟨(zt3 (i := 107) (by decide +kernel) rfl), (zt1 (i := 1) (by decide +kernel) rfl), ⟨by decide +kernel, by decide +kernel, by decide +kernel⟩, by decide, Or.inl (zt3 (i := 104) (by decide +kernel) rfl)⟩, (zt3 (i := 105) (by decide +kernel) rfl), (zt3 (i := 106) (by decide +kernel) rfl)⟩
theorem kX4_64 : zCallV RX4 64 MX4_offends 2 := ⟨⟨(zt3 (i := 124) (by decide +kernel) rfl), (zt1 (i := 6) (by decide +kernel) rfl), ⟨by decide +kernel, by decide +kernel, by decide +kernel⟩, by decide, Or.inl (zt3 (i := 121) (by decide +kernel) rfl)⟩, (zt3 (i := 123) (by decide +kernel) rfl), (ztp (i := 43) (by decide +kernel) rfl)⟩
theorem kL_83 : zCallV RL 83 MX6_quarrels 0 := ⟨⟨(zt3 (i := 129) (by decide +kernel) rfl), (zt1 (i := 1) (by decide +kernel) rfl), ⟨by decide +kernel, by decide +kernel, by decide +kernel⟩, by decide, Or.inl (zt3 (i := 126) (by decide +kernel) rfl)⟩, (zt3 (i := 127) (by decide +kernel) rfl), (zt3 (i := 128) (by decide +kernel) rfl)⟩
theorem kX4_76 : zCallV RX4 76 MX4_quarrelsAmong 2 := ⟨⟨(zt3 (i := 137) (by decide +kernel) rfl), (zt1 (i := 6) (by decide +kernel) rfl), ⟨by decide +kernel, by decide +kernel, by decide +kernel⟩, by decide, Or.inl (zt3 (i := 134) (by decide +kernel) rfl)⟩, (zt3 (i := 136) (by decide +kernel) rfl), (ztp (i := 45) (by decide +kernel) rfl)⟩
theorem kX4_72 : zCallV RX4 72 MX4_quarrelsOf 2 := ⟨⟨(zt3 (i := 141) (by decide +kernel) rfl), (zt1 (i := 6) (by decide +kernel) rfl), ⟨by decide +kernel, by decide +kernel, by decide +kernel⟩, by decide, Or.inl (zt3 (i := 138) (by decide +kernel) rfl)⟩, (zt3 (i := 140) (by decide +kernel) rfl), (ztp (i := 46) (by decide +kernel) rfl)⟩
theorem lX4_67 : Cond.methodLink RX4 67 Lib.Math.abs.name ∈ zT := (zt3 (i := 142) (by decide +kernel) rfl)
theorem kL_87 : zCallV RL 87 MX6_laying 1 := ⟨⟨(zt3 (i := 148) (by decide +kernel) rfl), (zt1 (i := 1) (by decide +kernel) rfl), ⟨by decide +kernel, by decide +kernel, by decide +kernel⟩, by decide, Or.inl (zt3 (i := 145) (by decide +kernel) rfl)⟩, (zt3 (i := 146) (by decide +kernel) rfl), (zt3 (i := 147) (by decide +kernel) rfl)⟩
theorem kX4_79 : zCallS RX4 79 MJ6_bitCount_0f7a4 1 := ⟨⟨(zt3 (i := 100) (by decide +kernel) rfl), (zt1 (i := 14) (by decide +kernel) rfl), ⟨by decide +kernel, by decide +kernel, by decide +kernel⟩, by decide, Or.inl (zt3 (i := 153) (by decide +kernel) rfl)⟩, (zt3 (i := 99) (by decide +kernel) rfl)⟩
theorem kX4_84 : zCallV RX4 84 MX4_quarrelsNow 0 := ⟨⟨(zt3 (i := 133) (by decide +kernel) rfl), (zt1 (i := 6) (by decide +kernel) rfl), ⟨by decide +kernel, by decide +kernel, by decide +kernel⟩, by decide, Or.inl (zt3 (i := 154) (by decide +kernel) rfl)⟩, (zt3 (i := 132) (by decide +kernel) rfl), (ztp (i := 44) (by decide +kernel) rfl)⟩
theorem kX4_88 : zCallS RX4 88 MX4_search 5 := ⟨⟨(zt3 (i := 157) (by decide +kernel) rfl), (zt1 (i := 6) (by decide +kernel) rfl), ⟨by decide +kernel, by decide +kernel, by decide +kernel⟩, by decide, Or.inl (zt3 (i := 155) (by decide +kernel) rfl)⟩, (zt3 (i := 156) (by decide +kernel) rfl)⟩
theorem kL_91 : zCallV RL 91 MX6_when 2 := ⟨⟨(zt3 (i := 162) (by decide +kernel) rfl), (zt1 (i := 1) (by decide +kernel) rfl), ⟨by decide +kernel, by decide +kernel, by decide +kernel⟩, by decide, Or.inl (zt3 (i := 159) (by decide +kernel) rfl)⟩, (zt3 (i := 160) (by decide +kernel) rfl), (zt3 (i := 161) (by decide +kernel) rfl)⟩
theorem kX3_191 : zCallV RX3 191 MX3_softBehind 2 := ⟨⟨(zt3 (i := 170) (by decide +kernel) rfl), (zt1 (i := 4) (by decide +kernel) rfl), ⟨by decide +kernel, by decide +kernel, by decide +kernel⟩, by decide, Or.inl (zt3 (i := 167) (by decide +kernel) rfl)⟩, (zt3 (i := 169) (by decide +kernel) rfl), (ztp (i := 49) (by decide +kernel) rfl)⟩
theorem kL_95 : zCallV RL 95 MX6_span 4 := ⟨⟨(zt3 (i := 174) (by decide +kernel) rfl), (zt1 (i := 1) (by decide +kernel) rfl), ⟨by decide +kernel, by decide +kernel, by decide +kernel⟩, by decide, Or.inl (zt3 (i := 171) (by decide +kernel) rfl)⟩, (zt3 (i := 172) (by decide +kernel) rfl), (zt3 (i := 173) (by decide +kernel) rfl)⟩
theorem kL_100 : zCallV RL 100 MX6_bribe 2 := ⟨⟨(zt3 (i := 178) (by decide +kernel) rfl), (zt1 (i := 1) (by decide +kernel) rfl), ⟨by decide +kernel, by decide +kernel, by decide +kernel⟩, by decide, Or.inl (zt3 (i := 175) (by decide +kernel) rfl)⟩, (zt3 (i := 176) (by decide +kernel) rfl), (zt3 (i := 177) (by decide +kernel) rfl)⟩
theorem kX6_267 : zCallV RX6 267 MX6_leastBribe 2 := ⟨⟨(zt3 (i := 182) (by decide +kernel) rfl), (zt1 (i := 1) (by decide +kernel) rfl), ⟨by decide +kernel, by decide +kernel, by decide +kernel⟩, by decide, Or.inl (zt3 (i := 179) (by decide +kernel) rfl)⟩, (zt3 (i := 181) (by decide +kernel) rfl), (ztp (i := 50) (by decide +kernel) rfl)⟩
theorem kL_104 : zCallV RL 104 MX6_label 2 := ⟨⟨(zt3 (i := 186) (by decide +kernel) rfl), (zt1 (i := 1) (by decide +kernel) rfl), ⟨by decide +kernel, by decide +kernel, by decide +kernel⟩, by decide, Or.inl (zt3 (i := 183) (by decide +kernel) rfl)⟩, (zt3 (i := 184) (by decide +kernel) rfl), (zt3 (i := 185) (by decide +kernel) rfl)⟩
theorem kL_108 : zCallV RL 108 MX6_mark 2 := ⟨⟨(zt3 (i := 190) (by decide +kernel) rfl), (zt1 (i := 1) (by decide +kernel) rfl), ⟨by decide +kernel, by decide +kernel, by decide +kernel⟩, by decide, Or.inl (zt3 (i := 187) (by decide +kernel) rfl)⟩, (zt3 (i := 188) (by decide +kernel) rfl), (zt3 (i := 189) (by decide +kernel) rfl)⟩
theorem kX6_270 : zCallS RX6 270 MX6_allBelow 1 := ⟨⟨(zt1 (i := 215) (by decide +kernel) rfl), (zt1 (i := 1) (by decide +kernel) rfl), ⟨by decide +kernel, by decide +kernel, by decide +kernel⟩, by decide, Or.inl (zt3 (i := 191) (by decide +kernel) rfl)⟩, (zt1 (i := 214) (by decide +kernel) rfl)⟩
theorem kL_112 : zCallV RL 112 MX6_fits 0 := ⟨⟨(zt3 (i := 195) (by decide +kernel) rfl), (zt1 (i := 1) (by decide +kernel) rfl), ⟨by decide +kernel, by decide +kernel, by decide +kernel⟩, by decide, Or.inl (zt3 (i := 192) (by decide +kernel) rfl)⟩, (zt3 (i := 193) (by decide +kernel) rfl), (zt3 (i := 194) (by decide +kernel) rfl)⟩
theorem kX2_32 : zCallS RX2 32 MJ6_bitCount_0f7a4 1 := ⟨⟨(zt3 (i := 100) (by decide +kernel) rfl), (zt1 (i := 14) (by decide +kernel) rfl), ⟨by decide +kernel, by decide +kernel, by decide +kernel⟩, by decide, Or.inl (zt3 (i := 202) (by decide +kernel) rfl)⟩, (zt3 (i := 99) (by decide +kernel) rfl)⟩
theorem kL_116 : zCallV RL 116 MX6_mixed 1 := ⟨⟨(zt3 (i := 209) (by decide +kernel) rfl), (zt1 (i := 1) (by decide +kernel) rfl), ⟨by decide +kernel, by decide +kernel, by decide +kernel⟩, by decide, Or.inl (zt3 (i := 206) (by decide +kernel) rfl)⟩, (zt3 (i := 207) (by decide +kernel) rfl), (zt3 (i := 208) (by decide +kernel) rfl)⟩
theorem kX2_48 : zCallV RX2 48 MX2_changesWith 3 := ⟨⟨(zt3 (i := 217) (by decide +kernel) rfl), (zt1 (i := 7) (by decide +kernel) rfl), ⟨by decide +kernel, by decide +kernel, by decide +kernel⟩, by decide, Or.inl (zt3 (i := 214) (by decide +kernel) rfl)⟩, (zt3 (i := 216) (by decide +kernel) rfl), (ztp (i := 53) (by decide +kernel) rfl)⟩
theorem lX2_52 : Cond.methodLink RX2 52 Lib.Math.min.name ∈ zT := (zt3 (i := 218) (by decide +kernel) rfl)
theorem kL_120 : zCallV RL 120 MX6_churches 1 := ⟨⟨(zt3 (i := 230) (by decide +kernel) rfl), (zt1 (i := 1) (by decide +kernel) rfl), ⟨by decide +kernel, by decide +kernel, by decide +kernel⟩, by decide, Or.inl (zt3 (i := 227) (by decide +kernel) rfl)⟩, (zt3 (i := 228) (by decide +kernel) rfl), (zt3 (i := 229) (by decide +kernel) rfl)⟩
theorem lX6_290 : Cond.methodLink RX6 290 Lib.Math.abs.name ∈ zT := (zt3 (i := 235) (by decide +kernel) rfl)
theorem kL_124 : zCallV RL 124 MX6_write 2 := ⟨⟨(zt3 (i := 239) (by decide +kernel) rfl), (zt1 (i := 1) (by decide +kernel) rfl), ⟨by decide +kernel, by decide +kernel, by decide +kernel⟩, by decide, Or.inl (zt3 (i := 236) (by decide +kernel) rfl)⟩, (zt3 (i := 237) (by decide +kernel) rfl), (zt3 (i := 238) (by decide +kernel) rfl)⟩
theorem kL_128 : zCallV RL 128 MX6_tear 0 := ⟨⟨(zt4 (i := 8) (by decide +kernel) rfl), (zt1 (i := 1) (by decide +kernel) rfl), ⟨by decide +kernel, by decide +kernel, by decide +kernel⟩, by decide, Or.inl (zt4 (i := 5) (by decide +kernel) rfl)⟩, (zt4 (i := 6) (by decide +kernel) rfl), (zt4 (i := 7) (by decide +kernel) rfl)⟩
theorem kL_132 : zCallV RL 132 MX6_judge 0 := ⟨⟨(zt4 (i := 12) (by decide +kernel) rfl), (zt1 (i := 1) (by decide +kernel) rfl), ⟨by decide +kernel, by decide +kernel, by decide +kernel⟩, by decide, Or.inl (zt4 (i := 9) (by decide +kernel) rfl)⟩, (zt4 (i := 10) (by decide +kernel) rfl), (zt4 (i := 11) (by decide +kernel) rfl)⟩
theorem kL_136 : zCallV RL 136 MX6_seed 1 := ⟨⟨(zt4 (i := 16) (by decide +kernel) rfl), (zt1 (i := 1) (by decide +kernel) rfl), ⟨by decide +kernel, by decide +kernel, by decide +kernel⟩, by decide, Or.inl (zt4 (i := 13) (by decide +kernel) rfl)⟩, (zt4 (i := 14) (by decide +kernel) rfl), (zt4 (i := 15) (by decide +kernel) rfl)⟩
theorem kL_140 : zCallV RL 140 MX6_keep 1 := ⟨⟨(zt4 (i := 20) (by decide +kernel) rfl), (zt1 (i := 1) (by decide +kernel) rfl), ⟨by decide +kernel, by decide +kernel, by decide +kernel⟩, by decide, Or.inl (zt4 (i := 17) (by decide +kernel) rfl)⟩, (zt4 (i := 18) (by decide +kernel) rfl), (zt4 (i := 19) (by decide +kernel) rfl)⟩
theorem kL_144 : zCallV RL 144 MX6_goBack 1 := ⟨⟨(zt4 (i := 24) (by decide +kernel) rfl), (zt1 (i := 1) (by decide +kernel) rfl), ⟨by decide +kernel, by decide +kernel, by decide +kernel⟩, by decide, Or.inl (zt4 (i := 21) (by decide +kernel) rfl)⟩, (zt4 (i := 22) (by decide +kernel) rfl), (zt4 (i := 23) (by decide +kernel) rfl)⟩
theorem kL_12 : zCallI RL 12 MX7_init 0 := ⟨⟨(zt4 (i := 29) (by decide +kernel) rfl), (zt1 (i := 8) (by decide +kernel) rfl), ⟨by decide +kernel, by decide +kernel, by decide +kernel⟩, by decide, Or.inl (zt4 (i := 27) (by decide +kernel) rfl)⟩, (zt4 (i := 28) (by decide +kernel) rfl), rfl, rfl⟩
theorem oX7_1 : Cond.methodLink RX7 1 Lib.objectInit ∈ zT := (zt4 (i := 30) (by decide +kernel) rfl)
theorem kL_19 : zCallV RL 19 MX7_feed 2 := ⟨⟨(zt4 (i := 129) (by decide +kernel) rfl), (zt1 (i := 8) (by decide +kernel) rfl), ⟨by decide +kernel, by decide +kernel, by decide +kernel⟩, by decide, Or.inl (zt4 (i := 126) (by decide +kernel) rfl)⟩, (zt4 (i := 127) (by decide +kernel) rfl), (zt4 (i := 128) (by decide +kernel) rfl)⟩
theorem kX7_77 : zCallS RX7 77 MX7_in 3 := ⟨⟨(zt4 (i := 133) (by decide +kernel) rfl), (zt1 (i := 8) (by decide +kernel) rfl), ⟨by decide +kernel, by decide +kernel, by decide +kernel⟩, by decide, Or.inl (zt4 (i := 131) (by decide +kernel) rfl)⟩, (zt4 (i := 132) (by decide +kernel) rfl)⟩
theorem kL_24 : zCallV RL 24 MX7_parish 0 := ⟨⟨(zt4 (i := 140) (by decide +kernel) rfl), (zt1 (i := 8) (by decide +kernel) rfl), ⟨by decide +kernel, by decide +kernel, by decide +kernel⟩, by decide, Or.inl (zt4 (i := 137) (by decide +kernel) rfl)⟩, (zt4 (i := 138) (by decide +kernel) rfl), (zt4 (i := 139) (by decide +kernel) rfl)⟩
theorem kX7_141 : zCallV RX7 141 MX7_start 0 := ⟨⟨(zt4 (i := 144) (by decide +kernel) rfl), (zt1 (i := 8) (by decide +kernel) rfl), ⟨by decide +kernel, by decide +kernel, by decide +kernel⟩, by decide, Or.inl (zt4 (i := 141) (by decide +kernel) rfl)⟩, (zt4 (i := 143) (by decide +kernel) rfl), (ztp (i := 58) (by decide +kernel) rfl)⟩
theorem kX7_94 : zCallV RX7 94 MX7_here 0 := ⟨⟨(zt4 (i := 148) (by decide +kernel) rfl), (zt1 (i := 8) (by decide +kernel) rfl), ⟨by decide +kernel, by decide +kernel, by decide +kernel⟩, by decide, Or.inl (zt4 (i := 145) (by decide +kernel) rfl)⟩, (zt4 (i := 147) (by decide +kernel) rfl), (ztp (i := 59) (by decide +kernel) rfl)⟩
theorem kX7_144 : zCallV RX7 144 MX7_takeClause 0 := ⟨⟨(zt4 (i := 152) (by decide +kernel) rfl), (zt1 (i := 8) (by decide +kernel) rfl), ⟨by decide +kernel, by decide +kernel, by decide +kernel⟩, by decide, Or.inl (zt4 (i := 149) (by decide +kernel) rfl)⟩, (zt4 (i := 151) (by decide +kernel) rfl), (ztp (i := 60) (by decide +kernel) rfl)⟩
theorem kX7_117 : zCallV RX7 117 MX7_takeWord 0 := ⟨⟨(zt4 (i := 156) (by decide +kernel) rfl), (zt1 (i := 8) (by decide +kernel) rfl), ⟨by decide +kernel, by decide +kernel, by decide +kernel⟩, by decide, Or.inl (zt4 (i := 153) (by decide +kernel) rfl)⟩, (zt4 (i := 155) (by decide +kernel) rfl), (ztp (i := 61) (by decide +kernel) rfl)⟩
theorem kX7_120 : zCallV RX7 120 MX7_isWord 6 := ⟨⟨(zt4 (i := 162) (by decide +kernel) rfl), (zt1 (i := 8) (by decide +kernel) rfl), ⟨by decide +kernel, by decide +kernel, by decide +kernel⟩, by decide, Or.inl (zt4 (i := 159) (by decide +kernel) rfl)⟩, (zt4 (i := 161) (by decide +kernel) rfl), (ztp (i := 62) (by decide +kernel) rfl)⟩
theorem kX7_112 : zCallV RX7 112 MX7_want 3 := ⟨⟨(zt4 (i := 166) (by decide +kernel) rfl), (zt1 (i := 8) (by decide +kernel) rfl), ⟨by decide +kernel, by decide +kernel, by decide +kernel⟩, by decide, Or.inl (zt4 (i := 163) (by decide +kernel) rfl)⟩, (zt4 (i := 165) (by decide +kernel) rfl), (ztp (i := 63) (by decide +kernel) rfl)⟩
theorem kX7_128 : zCallV RX7 128 MX7_takeNumber 2 := ⟨⟨(zt4 (i := 170) (by decide +kernel) rfl), (zt1 (i := 8) (by decide +kernel) rfl), ⟨by decide +kernel, by decide +kernel, by decide +kernel⟩, by decide, Or.inl (zt4 (i := 167) (by decide +kernel) rfl)⟩, (zt4 (i := 169) (by decide +kernel) rfl), (ztp (i := 64) (by decide +kernel) rfl)⟩
theorem kX7_138 : zCallV RX7 138 MX7_takeEnd 0 := ⟨⟨(zt4 (i := 177) (by decide +kernel) rfl), (zt1 (i := 8) (by decide +kernel) rfl), ⟨by decide +kernel, by decide +kernel, by decide +kernel⟩, by decide, Or.inl (zt4 (i := 174) (by decide +kernel) rfl)⟩, (zt4 (i := 176) (by decide +kernel) rfl), (ztp (i := 65) (by decide +kernel) rfl)⟩
theorem kL_28 : zCallV RL 28 MX7_custom 0 := ⟨⟨(zt4 (i := 181) (by decide +kernel) rfl), (zt1 (i := 8) (by decide +kernel) rfl), ⟨by decide +kernel, by decide +kernel, by decide +kernel⟩, by decide, Or.inl (zt4 (i := 178) (by decide +kernel) rfl)⟩, (zt4 (i := 179) (by decide +kernel) rfl), (zt4 (i := 180) (by decide +kernel) rfl)⟩
theorem kX7_150 : zCallS RX7 150 MX7_has 2 := ⟨⟨(zt4 (i := 184) (by decide +kernel) rfl), (zt1 (i := 8) (by decide +kernel) rfl), ⟨by decide +kernel, by decide +kernel, by decide +kernel⟩, by decide, Or.inl (zt4 (i := 182) (by decide +kernel) rfl)⟩, (zt4 (i := 183) (by decide +kernel) rfl)⟩
theorem kL_32 : zCallV RL 32 MX7_fault 0 := ⟨⟨(zt4 (i := 188) (by decide +kernel) rfl), (zt1 (i := 8) (by decide +kernel) rfl), ⟨by decide +kernel, by decide +kernel, by decide +kernel⟩, by decide, Or.inl (zt4 (i := 185) (by decide +kernel) rfl)⟩, (zt4 (i := 186) (by decide +kernel) rfl), (zt4 (i := 187) (by decide +kernel) rfl)⟩
theorem kL_37 : zCallV RL 37 MX7_told 1 := ⟨⟨(zt4 (i := 192) (by decide +kernel) rfl), (zt1 (i := 8) (by decide +kernel) rfl), ⟨by decide +kernel, by decide +kernel, by decide +kernel⟩, by decide, Or.inl (zt4 (i := 189) (by decide +kernel) rfl)⟩, (zt4 (i := 190) (by decide +kernel) rfl), (zt4 (i := 191) (by decide +kernel) rfl)⟩
theorem kX7_175 : zCallV RX7 175 MX7_loft 1 := ⟨⟨(zt4 (i := 196) (by decide +kernel) rfl), (zt1 (i := 8) (by decide +kernel) rfl), ⟨by decide +kernel, by decide +kernel, by decide +kernel⟩, by decide, Or.inl (zt4 (i := 193) (by decide +kernel) rfl)⟩, (zt4 (i := 195) (by decide +kernel) rfl), (ztp (i := 66) (by decide +kernel) rfl)⟩
theorem kX7_154 : zCallV RX7 154 MX7_isInLoft 2 := ⟨⟨(zt4 (i := 200) (by decide +kernel) rfl), (zt1 (i := 8) (by decide +kernel) rfl), ⟨by decide +kernel, by decide +kernel, by decide +kernel⟩, by decide, Or.inl (zt4 (i := 197) (by decide +kernel) rfl)⟩, (zt4 (i := 199) (by decide +kernel) rfl), (ztp (i := 67) (by decide +kernel) rfl)⟩
theorem kX7_157 : zCallS RX7 157 MX7_one 1 := ⟨⟨(zt4 (i := 203) (by decide +kernel) rfl), (zt1 (i := 8) (by decide +kernel) rfl), ⟨by decide +kernel, by decide +kernel, by decide +kernel⟩, by decide, Or.inl (zt4 (i := 201) (by decide +kernel) rfl)⟩, (zt4 (i := 202) (by decide +kernel) rfl)⟩
theorem kX7_179 : zCallV RX7 179 MX7_laid 1 := ⟨⟨(zt4 (i := 207) (by decide +kernel) rfl), (zt1 (i := 8) (by decide +kernel) rfl), ⟨by decide +kernel, by decide +kernel, by decide +kernel⟩, by decide, Or.inl (zt4 (i := 204) (by decide +kernel) rfl)⟩, (zt4 (i := 206) (by decide +kernel) rfl), (ztp (i := 68) (by decide +kernel) rfl)⟩
theorem kL_42 : zCallV RL 42 MX7_yard 2 := ⟨⟨(zt4 (i := 211) (by decide +kernel) rfl), (zt1 (i := 8) (by decide +kernel) rfl), ⟨by decide +kernel, by decide +kernel, by decide +kernel⟩, by decide, Or.inl (zt4 (i := 208) (by decide +kernel) rfl)⟩, (zt4 (i := 209) (by decide +kernel) rfl), (zt4 (i := 210) (by decide +kernel) rfl)⟩
theorem kX7_182 : zCallV RX7 182 MX7_isYard 1 := ⟨⟨(zt4 (i := 215) (by decide +kernel) rfl), (zt1 (i := 8) (by decide +kernel) rfl), ⟨by decide +kernel, by decide +kernel, by decide +kernel⟩, by decide, Or.inl (zt4 (i := 212) (by decide +kernel) rfl)⟩, (zt4 (i := 214) (by decide +kernel) rfl), (ztp (i := 69) (by decide +kernel) rfl)⟩
theorem kX7_187 : zCallV RX7 187 MX7_who 2 := ⟨⟨(zt4 (i := 220) (by decide +kernel) rfl), (zt1 (i := 8) (by decide +kernel) rfl), ⟨by decide +kernel, by decide +kernel, by decide +kernel⟩, by decide, Or.inl (zt4 (i := 217) (by decide +kernel) rfl)⟩, (zt4 (i := 219) (by decide +kernel) rfl), (ztp (i := 70) (by decide +kernel) rfl)⟩
theorem kL_46 : zCallV RL 46 MX7_dead 2 := ⟨⟨(zt4 (i := 224) (by decide +kernel) rfl), (zt1 (i := 8) (by decide +kernel) rfl), ⟨by decide +kernel, by decide +kernel, by decide +kernel⟩, by decide, Or.inl (zt4 (i := 221) (by decide +kernel) rfl)⟩, (zt4 (i := 222) (by decide +kernel) rfl), (zt4 (i := 223) (by decide +kernel) rfl)⟩
theorem kX7_190 : zCallV RX7 190 MX7_isDead 1 := ⟨⟨(zt4 (i := 228) (by decide +kernel) rfl), (zt1 (i := 8) (by decide +kernel) rfl), ⟨by decide +kernel, by decide +kernel, by decide +kernel⟩, by decide, Or.inl (zt4 (i := 225) (by decide +kernel) rfl)⟩, (zt4 (i := 227) (by decide +kernel) rfl), (ztp (i := 71) (by decide +kernel) rfl)⟩
theorem kL_50 : zCallV RL 50 MX7_order 1 := ⟨⟨(zt4 (i := 232) (by decide +kernel) rfl), (zt1 (i := 8) (by decide +kernel) rfl), ⟨by decide +kernel, by decide +kernel, by decide +kernel⟩, by decide, Or.inl (zt4 (i := 229) (by decide +kernel) rfl)⟩, (zt4 (i := 230) (by decide +kernel) rfl), (zt4 (i := 231) (by decide +kernel) rfl)⟩
theorem kX7_193 : zCallV RX7 193 MX7_inOrder 2 := ⟨⟨(zt4 (i := 236) (by decide +kernel) rfl), (zt1 (i := 8) (by decide +kernel) rfl), ⟨by decide +kernel, by decide +kernel, by decide +kernel⟩, by decide, Or.inl (zt4 (i := 233) (by decide +kernel) rfl)⟩, (zt4 (i := 235) (by decide +kernel) rfl), (ztp (i := 72) (by decide +kernel) rfl)⟩
theorem kX7_172 : zCallV RX7 172 MX7_placeOf 2 := ⟨⟨(zt5 (i := 0) (by decide +kernel) rfl), (zt1 (i := 8) (by decide +kernel) rfl), ⟨by decide +kernel, by decide +kernel, by decide +kernel⟩, by decide, Or.inl (zt4 (i := 237) (by decide +kernel) rfl)⟩, (zt4 (i := 239) (by decide +kernel) rfl), (ztp (i := 73) (by decide +kernel) rfl)⟩
theorem kX7_169 : zCallV RX7 169 MX7_isAhead 3 := ⟨⟨(zt5 (i := 4) (by decide +kernel) rfl), (zt1 (i := 8) (by decide +kernel) rfl), ⟨by decide +kernel, by decide +kernel, by decide +kernel⟩, by decide, Or.inl (zt5 (i := 1) (by decide +kernel) rfl)⟩, (zt5 (i := 3) (by decide +kernel) rfl), (ztp (i := 74) (by decide +kernel) rfl)⟩
theorem kX7_165 : zCallV RX7 165 MX7_isAheadByCustom 3 := ⟨⟨(zt5 (i := 8) (by decide +kernel) rfl), (zt1 (i := 8) (by decide +kernel) rfl), ⟨by decide +kernel, by decide +kernel, by decide +kernel⟩, by decide, Or.inl (zt5 (i := 5) (by decide +kernel) rfl)⟩, (zt5 (i := 7) (by decide +kernel) rfl), (ztp (i := 75) (by decide +kernel) rfl)⟩
theorem kX7_161 : zCallV RX7 161 MX7_valueBy 3 := ⟨⟨(zt5 (i := 12) (by decide +kernel) rfl), (zt1 (i := 8) (by decide +kernel) rfl), ⟨by decide +kernel, by decide +kernel, by decide +kernel⟩, by decide, Or.inl (zt5 (i := 9) (by decide +kernel) rfl)⟩, (zt5 (i := 11) (by decide +kernel) rfl), (ztp (i := 76) (by decide +kernel) rfl)⟩
theorem kL_54 : zCallV RL 54 MX7_letter 2 := ⟨⟨(zt5 (i := 16) (by decide +kernel) rfl), (zt1 (i := 8) (by decide +kernel) rfl), ⟨by decide +kernel, by decide +kernel, by decide +kernel⟩, by decide, Or.inl (zt5 (i := 13) (by decide +kernel) rfl)⟩, (zt5 (i := 14) (by decide +kernel) rfl), (zt5 (i := 15) (by decide +kernel) rfl)⟩
theorem kL_58 : zCallV RL 58 MX7_gift 2 := ⟨⟨(zt5 (i := 21) (by decide +kernel) rfl), (zt1 (i := 8) (by decide +kernel) rfl), ⟨by decide +kernel, by decide +kernel, by decide +kernel⟩, by decide, Or.inl (zt5 (i := 18) (by decide +kernel) rfl)⟩, (zt5 (i := 19) (by decide +kernel) rfl), (zt5 (i := 20) (by decide +kernel) rfl)⟩
theorem kL_62 : zCallV RL 62 MX7_knock 1 := ⟨⟨(zt5 (i := 27) (by decide +kernel) rfl), (zt1 (i := 8) (by decide +kernel) rfl), ⟨by decide +kernel, by decide +kernel, by decide +kernel⟩, by decide, Or.inl (zt5 (i := 24) (by decide +kernel) rfl)⟩, (zt5 (i := 25) (by decide +kernel) rfl), (zt5 (i := 26) (by decide +kernel) rfl)⟩
theorem kL_66 : zCallV RL 66 MX7_day 1 := ⟨⟨(zt5 (i := 31) (by decide +kernel) rfl), (zt1 (i := 8) (by decide +kernel) rfl), ⟨by decide +kernel, by decide +kernel, by decide +kernel⟩, by decide, Or.inl (zt5 (i := 28) (by decide +kernel) rfl)⟩, (zt5 (i := 29) (by decide +kernel) rfl), (zt5 (i := 30) (by decide +kernel) rfl)⟩
theorem kX7_208 : zCallV RX7 208 MX7_pass 1 := ⟨⟨(zt5 (i := 37) (by decide +kernel) rfl), (zt1 (i := 8) (by decide +kernel) rfl), ⟨by decide +kernel, by decide +kernel, by decide +kernel⟩, by decide, Or.inl (zt5 (i := 34) (by decide +kernel) rfl)⟩, (zt5 (i := 36) (by decide +kernel) rfl), (ztp (i := 77) (by decide +kernel) rfl)⟩
theorem kX7_201 : zCallV RX7 201 MX7_rate 2 := ⟨⟨(zt5 (i := 41) (by decide +kernel) rfl), (zt1 (i := 8) (by decide +kernel) rfl), ⟨by decide +kernel, by decide +kernel, by decide +kernel⟩, by decide, Or.inl (zt5 (i := 38) (by decide +kernel) rfl)⟩, (zt5 (i := 40) (by decide +kernel) rfl), (ztp (i := 78) (by decide +kernel) rfl)⟩
theorem kX7_212 : zCallV RX7 212 MX7_softYards 0 := ⟨⟨(zt5 (i := 45) (by decide +kernel) rfl), (zt1 (i := 8) (by decide +kernel) rfl), ⟨by decide +kernel, by decide +kernel, by decide +kernel⟩, by decide, Or.inl (zt5 (i := 42) (by decide +kernel) rfl)⟩, (zt5 (i := 44) (by decide +kernel) rfl), (ztp (i := 79) (by decide +kernel) rfl)⟩
theorem kL_70 : zCallV RL 70 MX7_rats 2 := ⟨⟨(zt5 (i := 49) (by decide +kernel) rfl), (zt1 (i := 8) (by decide +kernel) rfl), ⟨by decide +kernel, by decide +kernel, by decide +kernel⟩, by decide, Or.inl (zt5 (i := 46) (by decide +kernel) rfl)⟩, (zt5 (i := 47) (by decide +kernel) rfl), (zt5 (i := 48) (by decide +kernel) rfl)⟩
theorem kX7_227 : zCallV RX7 227 MX7_gnaw 1 := ⟨⟨(zt5 (i := 54) (by decide +kernel) rfl), (zt1 (i := 8) (by decide +kernel) rfl), ⟨by decide +kernel, by decide +kernel, by decide +kernel⟩, by decide, Or.inl (zt5 (i := 51) (by decide +kernel) rfl)⟩, (zt5 (i := 53) (by decide +kernel) rfl), (ztp (i := 80) (by decide +kernel) rfl)⟩
theorem kX7_222 : zCallV RX7 222 MX7_draw 1 := ⟨⟨(zt5 (i := 58) (by decide +kernel) rfl), (zt1 (i := 8) (by decide +kernel) rfl), ⟨by decide +kernel, by decide +kernel, by decide +kernel⟩, by decide, Or.inl (zt5 (i := 55) (by decide +kernel) rfl)⟩, (zt5 (i := 57) (by decide +kernel) rfl), (ztp (i := 81) (by decide +kernel) rfl)⟩
theorem kL_74 : zCallV RL 74 MX7_lay 2 := ⟨⟨(zt5 (i := 66) (by decide +kernel) rfl), (zt1 (i := 8) (by decide +kernel) rfl), ⟨by decide +kernel, by decide +kernel, by decide +kernel⟩, by decide, Or.inl (zt5 (i := 63) (by decide +kernel) rfl)⟩, (zt5 (i := 64) (by decide +kernel) rfl), (zt5 (i := 65) (by decide +kernel) rfl)⟩
theorem kX7_230 : zCallV RX7 230 MX7_layIn 3 := ⟨⟨(zt5 (i := 70) (by decide +kernel) rfl), (zt1 (i := 8) (by decide +kernel) rfl), ⟨by decide +kernel, by decide +kernel, by decide +kernel⟩, by decide, Or.inl (zt5 (i := 67) (by decide +kernel) rfl)⟩, (zt5 (i := 69) (by decide +kernel) rfl), (ztp (i := 82) (by decide +kernel) rfl)⟩
theorem kL_78 : zCallV RL 78 MX7_spring 2 := ⟨⟨(zt5 (i := 74) (by decide +kernel) rfl), (zt1 (i := 8) (by decide +kernel) rfl), ⟨by decide +kernel, by decide +kernel, by decide +kernel⟩, by decide, Or.inl (zt5 (i := 71) (by decide +kernel) rfl)⟩, (zt5 (i := 72) (by decide +kernel) rfl), (zt5 (i := 73) (by decide +kernel) rfl)⟩
theorem kX7_233 : zCallV RX7 233 MX7_leastSoft 0 := ⟨⟨(zt5 (i := 78) (by decide +kernel) rfl), (zt1 (i := 8) (by decide +kernel) rfl), ⟨by decide +kernel, by decide +kernel, by decide +kernel⟩, by decide, Or.inl (zt5 (i := 75) (by decide +kernel) rfl)⟩, (zt5 (i := 77) (by decide +kernel) rfl), (ztp (i := 83) (by decide +kernel) rfl)⟩
theorem kX7_236 : zCallS RX7 236 MX7_ones 1 := ⟨⟨(zt5 (i := 81) (by decide +kernel) rfl), (zt1 (i := 8) (by decide +kernel) rfl), ⟨by decide +kernel, by decide +kernel, by decide +kernel⟩, by decide, Or.inl (zt5 (i := 79) (by decide +kernel) rfl)⟩, (zt5 (i := 80) (by decide +kernel) rfl)⟩
theorem kL_82 : zCallV RL 82 MX7_offended 1 := ⟨⟨(zt5 (i := 85) (by decide +kernel) rfl), (zt1 (i := 8) (by decide +kernel) rfl), ⟨by decide +kernel, by decide +kernel, by decide +kernel⟩, by decide, Or.inl (zt5 (i := 82) (by decide +kernel) rfl)⟩, (zt5 (i := 83) (by decide +kernel) rfl), (zt5 (i := 84) (by decide +kernel) rfl)⟩
theorem kX7_239 : zCallV RX7 239 MX7_offends 3 := ⟨⟨(zt5 (i := 89) (by decide +kernel) rfl), (zt1 (i := 8) (by decide +kernel) rfl), ⟨by decide +kernel, by decide +kernel, by decide +kernel⟩, by decide, Or.inl (zt5 (i := 86) (by decide +kernel) rfl)⟩, (zt5 (i := 88) (by decide +kernel) rfl), (ztp (i := 84) (by decide +kernel) rfl)⟩
theorem kL_86 : zCallV RL 86 MX7_quarrels 0 := ⟨⟨(zt5 (i := 93) (by decide +kernel) rfl), (zt1 (i := 8) (by decide +kernel) rfl), ⟨by decide +kernel, by decide +kernel, by decide +kernel⟩, by decide, Or.inl (zt5 (i := 90) (by decide +kernel) rfl)⟩, (zt5 (i := 91) (by decide +kernel) rfl), (zt5 (i := 92) (by decide +kernel) rfl)⟩
theorem kX7_245 : zCallV RX7 245 MX7_quarrelsIn 1 := ⟨⟨(zt5 (i := 97) (by decide +kernel) rfl), (zt1 (i := 8) (by decide +kernel) rfl), ⟨by decide +kernel, by decide +kernel, by decide +kernel⟩, by decide, Or.inl (zt5 (i := 94) (by decide +kernel) rfl)⟩, (zt5 (i := 96) (by decide +kernel) rfl), (ztp (i := 85) (by decide +kernel) rfl)⟩
theorem kX7_242 : zCallS RX7 242 MX7_size 1 := ⟨⟨(zt5 (i := 100) (by decide +kernel) rfl), (zt1 (i := 8) (by decide +kernel) rfl), ⟨by decide +kernel, by decide +kernel, by decide +kernel⟩, by decide, Or.inl (zt5 (i := 98) (by decide +kernel) rfl)⟩, (zt5 (i := 99) (by decide +kernel) rfl)⟩
theorem kL_90 : zCallV RL 90 MX7_laying 1 := ⟨⟨(zt5 (i := 104) (by decide +kernel) rfl), (zt1 (i := 8) (by decide +kernel) rfl), ⟨by decide +kernel, by decide +kernel, by decide +kernel⟩, by decide, Or.inl (zt5 (i := 101) (by decide +kernel) rfl)⟩, (zt5 (i := 102) (by decide +kernel) rfl), (zt5 (i := 103) (by decide +kernel) rfl)⟩
theorem kX7_267 : zCallV RX7 267 MX7_findLaying 0 := ⟨⟨(zt5 (i := 108) (by decide +kernel) rfl), (zt1 (i := 8) (by decide +kernel) rfl), ⟨by decide +kernel, by decide +kernel, by decide +kernel⟩, by decide, Or.inl (zt5 (i := 105) (by decide +kernel) rfl)⟩, (zt5 (i := 107) (by decide +kernel) rfl), (ztp (i := 86) (by decide +kernel) rfl)⟩
theorem kX7_257 : zCallV RX7 257 MX7_copy 2 := ⟨⟨(zt5 (i := 112) (by decide +kernel) rfl), (zt1 (i := 8) (by decide +kernel) rfl), ⟨by decide +kernel, by decide +kernel, by decide +kernel⟩, by decide, Or.inl (zt5 (i := 109) (by decide +kernel) rfl)⟩, (zt5 (i := 111) (by decide +kernel) rfl), (ztp (i := 87) (by decide +kernel) rfl)⟩
theorem kX7_254 : zCallV RX7 254 MX7_isFree 1 := ⟨⟨(zt5 (i := 116) (by decide +kernel) rfl), (zt1 (i := 8) (by decide +kernel) rfl), ⟨by decide +kernel, by decide +kernel, by decide +kernel⟩, by decide, Or.inl (zt5 (i := 113) (by decide +kernel) rfl)⟩, (zt5 (i := 115) (by decide +kernel) rfl), (ztp (i := 88) (by decide +kernel) rfl)⟩
theorem kX7_251 : zCallV RX7 251 MX7_fill 2 := ⟨⟨(zt5 (i := 120) (by decide +kernel) rfl), (zt1 (i := 8) (by decide +kernel) rfl), ⟨by decide +kernel, by decide +kernel, by decide +kernel⟩, by decide, Or.inl (zt5 (i := 117) (by decide +kernel) rfl)⟩, (zt5 (i := 119) (by decide +kernel) rfl), (ztp (i := 89) (by decide +kernel) rfl)⟩
theorem kX7_248 : zCallV RX7 248 MX7_isUnlike 1 := ⟨⟨(zt5 (i := 124) (by decide +kernel) rfl), (zt1 (i := 8) (by decide +kernel) rfl), ⟨by decide +kernel, by decide +kernel, by decide +kernel⟩, by decide, Or.inl (zt5 (i := 121) (by decide +kernel) rfl)⟩, (zt5 (i := 123) (by decide +kernel) rfl), (ztp (i := 90) (by decide +kernel) rfl)⟩
theorem kX7_264 : zCallV RX7 264 MX7_goOn 1 := ⟨⟨(zt5 (i := 128) (by decide +kernel) rfl), (zt1 (i := 8) (by decide +kernel) rfl), ⟨by decide +kernel, by decide +kernel, by decide +kernel⟩, by decide, Or.inl (zt5 (i := 125) (by decide +kernel) rfl)⟩, (zt5 (i := 127) (by decide +kernel) rfl), (ztp (i := 91) (by decide +kernel) rfl)⟩
theorem kL_94 : zCallV RL 94 MX7_when 2 := ⟨⟨(zt5 (i := 132) (by decide +kernel) rfl), (zt1 (i := 8) (by decide +kernel) rfl), ⟨by decide +kernel, by decide +kernel, by decide +kernel⟩, by decide, Or.inl (zt5 (i := 129) (by decide +kernel) rfl)⟩, (zt5 (i := 130) (by decide +kernel) rfl), (zt5 (i := 131) (by decide +kernel) rfl)⟩
theorem kX7_274 : zCallV RX7 274 MX7_whenSoft 2 := ⟨⟨(zt5 (i := 136) (by decide +kernel) rfl), (zt1 (i := 8) (by decide +kernel) rfl), ⟨by decide +kernel, by decide +kernel, by decide +kernel⟩, by decide, Or.inl (zt5 (i := 133) (by decide +kernel) rfl)⟩, (zt5 (i := 135) (by decide +kernel) rfl), (ztp (i := 92) (by decide +kernel) rfl)⟩
theorem kX7_271 : zCallV RX7 271 MX7_daysTill 2 := ⟨⟨(zt5 (i := 140) (by decide +kernel) rfl), (zt1 (i := 8) (by decide +kernel) rfl), ⟨by decide +kernel, by decide +kernel, by decide +kernel⟩, by decide, Or.inl (zt5 (i := 137) (by decide +kernel) rfl)⟩, (zt5 (i := 139) (by decide +kernel) rfl), (ztp (i := 93) (by decide +kernel) rfl)⟩
theorem kL_99 : zCallV RL 99 MX7_span 4 := ⟨⟨(zt5 (i := 144) (by decide +kernel) rfl), (zt1 (i := 8) (by decide +kernel) rfl), ⟨by decide +kernel, by decide +kernel, by decide +kernel⟩, by decide, Or.inl (zt5 (i := 141) (by decide +kernel) rfl)⟩, (zt5 (i := 142) (by decide +kernel) rfl), (zt5 (i := 143) (by decide +kernel) rfl)⟩
theorem kL_103 : zCallV RL 103 MX7_bribe 2 := ⟨⟨(zt5 (i := 148) (by decide +kernel) rfl), (zt1 (i := 8) (by decide +kernel) rfl), ⟨by decide +kernel, by decide +kernel, by decide +kernel⟩, by decide, Or.inl (zt5 (i := 145) (by decide +kernel) rfl)⟩, (zt5 (i := 146) (by decide +kernel) rfl), (zt5 (i := 147) (by decide +kernel) rfl)⟩
theorem kL_107 : zCallV RL 107 MX7_label 2 := ⟨⟨(zt5 (i := 153) (by decide +kernel) rfl), (zt1 (i := 8) (by decide +kernel) rfl), ⟨by decide +kernel, by decide +kernel, by decide +kernel⟩, by decide, Or.inl (zt5 (i := 150) (by decide +kernel) rfl)⟩, (zt5 (i := 151) (by decide +kernel) rfl), (zt5 (i := 152) (by decide +kernel) rfl)⟩
theorem kL_111 : zCallV RL 111 MX7_mark 2 := ⟨⟨(zt5 (i := 157) (by decide +kernel) rfl), (zt1 (i := 8) (by decide +kernel) rfl), ⟨by decide +kernel, by decide +kernel, by decide +kernel⟩, by decide, Or.inl (zt5 (i := 154) (by decide +kernel) rfl)⟩, (zt5 (i := 155) (by decide +kernel) rfl), (zt5 (i := 156) (by decide +kernel) rfl)⟩
theorem kL_115 : zCallV RL 115 MX7_fits 0 := ⟨⟨(zt5 (i := 161) (by decide +kernel) rfl), (zt1 (i := 8) (by decide +kernel) rfl), ⟨by decide +kernel, by decide +kernel, by decide +kernel⟩, by decide, Or.inl (zt5 (i := 158) (by decide +kernel) rfl)⟩, (zt5 (i := 159) (by decide +kernel) rfl), (zt5 (i := 160) (by decide +kernel) rfl)⟩
theorem kX7_282 : zCallV RX7 282 MX7_findNames 0 := ⟨⟨(zt5 (i := 165) (by decide +kernel) rfl), (zt1 (i := 8) (by decide +kernel) rfl), ⟨by decide +kernel, by decide +kernel, by decide +kernel⟩, by decide, Or.inl (zt5 (i := 162) (by decide +kernel) rfl)⟩, (zt5 (i := 164) (by decide +kernel) rfl), (ztp (i := 94) (by decide +kernel) rfl)⟩
theorem kX7_279 : zCallV RX7 279 MX7_ahead 1 := ⟨⟨(zt5 (i := 169) (by decide +kernel) rfl), (zt1 (i := 8) (by decide +kernel) rfl), ⟨by decide +kernel, by decide +kernel, by decide +kernel⟩, by decide, Or.inl (zt5 (i := 166) (by decide +kernel) rfl)⟩, (zt5 (i := 168) (by decide +kernel) rfl), (ztp (i := 95) (by decide +kernel) rfl)⟩
theorem kL_119 : zCallV RL 119 MX7_mixed 1 := ⟨⟨(zt5 (i := 173) (by decide +kernel) rfl), (zt1 (i := 8) (by decide +kernel) rfl), ⟨by decide +kernel, by decide +kernel, by decide +kernel⟩, by decide, Or.inl (zt5 (i := 170) (by decide +kernel) rfl)⟩, (zt5 (i := 171) (by decide +kernel) rfl), (zt5 (i := 172) (by decide +kernel) rfl)⟩
theorem kL_123 : zCallV RL 123 MX7_churches 1 := ⟨⟨(zt5 (i := 177) (by decide +kernel) rfl), (zt1 (i := 8) (by decide +kernel) rfl), ⟨by decide +kernel, by decide +kernel, by decide +kernel⟩, by decide, Or.inl (zt5 (i := 174) (by decide +kernel) rfl)⟩, (zt5 (i := 175) (by decide +kernel) rfl), (zt5 (i := 176) (by decide +kernel) rfl)⟩
theorem kL_127 : zCallV RL 127 MX7_write 2 := ⟨⟨(zt5 (i := 181) (by decide +kernel) rfl), (zt1 (i := 8) (by decide +kernel) rfl), ⟨by decide +kernel, by decide +kernel, by decide +kernel⟩, by decide, Or.inl (zt5 (i := 178) (by decide +kernel) rfl)⟩, (zt5 (i := 179) (by decide +kernel) rfl), (zt5 (i := 180) (by decide +kernel) rfl)⟩
theorem kL_131 : zCallV RL 131 MX7_tear 0 := ⟨⟨(zt5 (i := 185) (by decide +kernel) rfl), (zt1 (i := 8) (by decide +kernel) rfl), ⟨by decide +kernel, by decide +kernel, by decide +kernel⟩, by decide, Or.inl (zt5 (i := 182) (by decide +kernel) rfl)⟩, (zt5 (i := 183) (by decide +kernel) rfl), (zt5 (i := 184) (by decide +kernel) rfl)⟩
theorem kL_135 : zCallV RL 135 MX7_judge 0 := ⟨⟨(zt5 (i := 189) (by decide +kernel) rfl), (zt1 (i := 8) (by decide +kernel) rfl), ⟨by decide +kernel, by decide +kernel, by decide +kernel⟩, by decide, Or.inl (zt5 (i := 186) (by decide +kernel) rfl)⟩, (zt5 (i := 187) (by decide +kernel) rfl), (zt5 (i := 188) (by decide +kernel) rfl)⟩
theorem kL_139 : zCallV RL 139 MX7_seed 1 := ⟨⟨(zt5 (i := 193) (by decide +kernel) rfl), (zt1 (i := 8) (by decide +kernel) rfl), ⟨by decide +kernel, by decide +kernel, by decide +kernel⟩, by decide, Or.inl (zt5 (i := 190) (by decide +kernel) rfl)⟩, (zt5 (i := 191) (by decide +kernel) rfl), (zt5 (i := 192) (by decide +kernel) rfl)⟩
theorem kL_143 : zCallV RL 143 MX7_keep 1 := ⟨⟨(zt5 (i := 197) (by decide +kernel) rfl), (zt1 (i := 8) (by decide +kernel) rfl), ⟨by decide +kernel, by decide +kernel, by decide +kernel⟩, by decide, Or.inl (zt5 (i := 194) (by decide +kernel) rfl)⟩, (zt5 (i := 195) (by decide +kernel) rfl), (zt5 (i := 196) (by decide +kernel) rfl)⟩
theorem kL_147 : zCallV RL 147 MX7_goBack 1 := ⟨⟨(zt5 (i := 201) (by decide +kernel) rfl), (zt1 (i := 8) (by decide +kernel) rfl), ⟨by decide +kernel, by decide +kernel, by decide +kernel⟩, by decide, Or.inl (zt5 (i := 198) (by decide +kernel) rfl)⟩, (zt5 (i := 199) (by decide +kernel) rfl), (zt5 (i := 200) (by decide +kernel) rfl)⟩
theorem kX6_9 : zCallI RX6 9 MX5_init 0 := ⟨⟨(zt1 (i := 27) (by decide +kernel) rfl), (zt1 (i := 2) (by decide +kernel) rfl), ⟨by decide +kernel, by decide +kernel, by decide +kernel⟩, by decide, Or.inr ⟨"LoftGraves", List.mem_of_getElem? (i := 0) (by decide +kernel)⟩⟩, (zt1 (i := 26) (by decide +kernel) rfl), rfl, rfl⟩
theorem kX6_18 : zCallI RX6 18 MX1_init 0 := ⟨⟨(zt1 (i := 55) (by decide +kernel) rfl), (zt1 (i := 3) (by decide +kernel) rfl), ⟨by decide +kernel, by decide +kernel, by decide +kernel⟩, by decide, Or.inr ⟨"LoftGraves", List.mem_of_getElem? (i := 6) (by decide +kernel)⟩⟩, (zt1 (i := 54) (by decide +kernel) rfl), rfl, rfl⟩
theorem kX6_28 : zCallI RX6 28 MX3_init 0 := ⟨⟨(zt1 (i := 72) (by decide +kernel) rfl), (zt1 (i := 4) (by decide +kernel) rfl), ⟨by decide +kernel, by decide +kernel, by decide +kernel⟩, by decide, Or.inr ⟨"LoftGraves", List.mem_of_getElem? (i := 10) (by decide +kernel)⟩⟩, (zt1 (i := 71) (by decide +kernel) rfl), rfl, rfl⟩
theorem kX6_51 : zCallI RX6 51 MX0_init 0 := ⟨⟨(zt1 (i := 148) (by decide +kernel) rfl), (zt1 (i := 5) (by decide +kernel) rfl), ⟨by decide +kernel, by decide +kernel, by decide +kernel⟩, by decide, Or.inr ⟨"LoftGraves", List.mem_of_getElem? (i := 32) (by decide +kernel)⟩⟩, (zt1 (i := 147) (by decide +kernel) rfl), rfl, rfl⟩
theorem kX6_58 : zCallI RX6 58 MX4_init 0 := ⟨⟨(zt1 (i := 167) (by decide +kernel) rfl), (zt1 (i := 6) (by decide +kernel) rfl), ⟨by decide +kernel, by decide +kernel, by decide +kernel⟩, by decide, Or.inr ⟨"LoftGraves", List.mem_of_getElem? (i := 36) (by decide +kernel)⟩⟩, (zt1 (i := 166) (by decide +kernel) rfl), rfl, rfl⟩
theorem kX6_65 : zCallI RX6 65 MX2_init 0 := ⟨⟨(zt1 (i := 195) (by decide +kernel) rfl), (zt1 (i := 7) (by decide +kernel) rfl), ⟨by decide +kernel, by decide +kernel, by decide +kernel⟩, by decide, Or.inr ⟨"LoftGraves", List.mem_of_getElem? (i := 40) (by decide +kernel)⟩⟩, (zt1 (i := 194) (by decide +kernel) rfl), rfl, rfl⟩
theorem kX6_70 : zCallV RX6 70 MX1_add 1 := ⟨⟨(zt1 (i := 204) (by decide +kernel) rfl), (zt1 (i := 3) (by decide +kernel) rfl), ⟨by decide +kernel, by decide +kernel, by decide +kernel⟩, by decide, Or.inr ⟨"LoftGraves", List.mem_of_getElem? (i := 41) (by decide +kernel)⟩⟩, (zt1 (i := 203) (by decide +kernel) rfl), (ztp (i := 0) (by decide +kernel) rfl)⟩
theorem kX1_19 : zCallS RX1 19 MX6_put 3 := ⟨⟨(zt1 (i := 207) (by decide +kernel) rfl), (zt1 (i := 1) (by decide +kernel) rfl), ⟨by decide +kernel, by decide +kernel, by decide +kernel⟩, by decide, Or.inr ⟨"LoftGraves", List.mem_of_getElem? (i := 42) (by decide +kernel)⟩⟩, (zt1 (i := 206) (by decide +kernel) rfl)⟩
theorem kX6_74 : zCallV RX6 74 MX3_settle 0 := ⟨⟨(zt1 (i := 211) (by decide +kernel) rfl), (zt1 (i := 4) (by decide +kernel) rfl), ⟨by decide +kernel, by decide +kernel, by decide +kernel⟩, by decide, Or.inr ⟨"LoftGraves", List.mem_of_getElem? (i := 43) (by decide +kernel)⟩⟩, (zt1 (i := 210) (by decide +kernel) rfl), (ztp (i := 1) (by decide +kernel) rfl)⟩
theorem kX3_110 : zCallS RX3 110 MX6_put 3 := ⟨⟨(zt1 (i := 207) (by decide +kernel) rfl), (zt1 (i := 1) (by decide +kernel) rfl), ⟨by decide +kernel, by decide +kernel, by decide +kernel⟩, by decide, Or.inr ⟨"LoftGraves", List.mem_of_getElem? (i := 44) (by decide +kernel)⟩⟩, (zt1 (i := 206) (by decide +kernel) rfl)⟩
theorem kX3_114 : zCallS RX3 114 MX6_allBelow 1 := ⟨⟨(zt1 (i := 215) (by decide +kernel) rfl), (zt1 (i := 1) (by decide +kernel) rfl), ⟨by decide +kernel, by decide +kernel, by decide +kernel⟩, by decide, Or.inr ⟨"LoftGraves", List.mem_of_getElem? (i := 45) (by decide +kernel)⟩⟩, (zt1 (i := 214) (by decide +kernel) rfl)⟩
theorem kX6_83 : zCallV RX6 83 MX5_append 1 := ⟨⟨(zt2 (i := 25) (by decide +kernel) rfl), (zt1 (i := 2) (by decide +kernel) rfl), ⟨by decide +kernel, by decide +kernel, by decide +kernel⟩, by decide, Or.inr ⟨"LoftGraves", List.mem_of_getElem? (i := 46) (by decide +kernel)⟩⟩, (zt2 (i := 24) (by decide +kernel) rfl), (ztp (i := 2) (by decide +kernel) rfl)⟩
theorem kX6_86 : zCallV RX6 86 MX3_readFrom 1 := ⟨⟨(zt2 (i := 33) (by decide +kernel) rfl), (zt1 (i := 4) (by decide +kernel) rfl), ⟨by decide +kernel, by decide +kernel, by decide +kernel⟩, by decide, Or.inr ⟨"LoftGraves", List.mem_of_getElem? (i := 47) (by decide +kernel)⟩⟩, (zt2 (i := 32) (by decide +kernel) rfl), (ztp (i := 3) (by decide +kernel) rfl)⟩
theorem kX3_65 : zCallV RX3 65 MX5_begin 0 := ⟨⟨(zt2 (i := 37) (by decide +kernel) rfl), (zt1 (i := 2) (by decide +kernel) rfl), ⟨by decide +kernel, by decide +kernel, by decide +kernel⟩, by decide, Or.inr ⟨"LoftGraves", List.mem_of_getElem? (i := 48) (by decide +kernel)⟩⟩, (zt2 (i := 36) (by decide +kernel) rfl), (ztp (i := 4) (by decide +kernel) rfl)⟩
theorem kX3_70 : zCallV RX3 70 MX5_goesOn 0 := ⟨⟨(zt2 (i := 41) (by decide +kernel) rfl), (zt1 (i := 2) (by decide +kernel) rfl), ⟨by decide +kernel, by decide +kernel, by decide +kernel⟩, by decide, Or.inr ⟨"LoftGraves", List.mem_of_getElem? (i := 49) (by decide +kernel)⟩⟩, (zt2 (i := 40) (by decide +kernel) rfl), (ztp (i := 5) (by decide +kernel) rfl)⟩
theorem kX3_82 : zCallV RX3 82 MX5_takeWord 1 := ⟨⟨(zt2 (i := 58) (by decide +kernel) rfl), (zt1 (i := 2) (by decide +kernel) rfl), ⟨by decide +kernel, by decide +kernel, by decide +kernel⟩, by decide, Or.inr ⟨"LoftGraves", List.mem_of_getElem? (i := 50) (by decide +kernel)⟩⟩, (zt2 (i := 57) (by decide +kernel) rfl), (ztp (i := 9) (by decide +kernel) rfl)⟩
theorem kX3_99 : zCallV RX3 99 MX5_blame 2 := ⟨⟨(zt2 (i := 114) (by decide +kernel) rfl), (zt1 (i := 2) (by decide +kernel) rfl), ⟨by decide +kernel, by decide +kernel, by decide +kernel⟩, by decide, Or.inr ⟨"LoftGraves", List.mem_of_getElem? (i := 51) (by decide +kernel)⟩⟩, (zt2 (i := 113) (by decide +kernel) rfl), (ztp (i := 11) (by decide +kernel) rfl)⟩
theorem kX3_103 : zCallV RX3 103 MX5_takeNumber 2 := ⟨⟨(zt2 (i := 118) (by decide +kernel) rfl), (zt1 (i := 2) (by decide +kernel) rfl), ⟨by decide +kernel, by decide +kernel, by decide +kernel⟩, by decide, Or.inr ⟨"LoftGraves", List.mem_of_getElem? (i := 52) (by decide +kernel)⟩⟩, (zt2 (i := 117) (by decide +kernel) rfl), (ztp (i := 12) (by decide +kernel) rfl)⟩
theorem kX3_107 : zCallV RX3 107 MX5_takeStop 0 := ⟨⟨(zt2 (i := 123) (by decide +kernel) rfl), (zt1 (i := 2) (by decide +kernel) rfl), ⟨by decide +kernel, by decide +kernel, by decide +kernel⟩, by decide, Or.inr ⟨"LoftGraves", List.mem_of_getElem? (i := 53) (by decide +kernel)⟩⟩, (zt2 (i := 122) (by decide +kernel) rfl), (ztp (i := 13) (by decide +kernel) rfl)⟩
theorem kX6_96 : zCallV RX6 96 MX3_copyFrom 1 := ⟨⟨(zt2 (i := 137) (by decide +kernel) rfl), (zt1 (i := 4) (by decide +kernel) rfl), ⟨by decide +kernel, by decide +kernel, by decide +kernel⟩, by decide, Or.inr ⟨"LoftGraves", List.mem_of_getElem? (i := 54) (by decide +kernel)⟩⟩, (zt2 (i := 136) (by decide +kernel) rfl), (ztp (i := 16) (by decide +kernel) rfl)⟩
theorem kX3_61 : zCallS RX3 61 MX6_copyRow 2 := ⟨⟨(zt2 (i := 140) (by decide +kernel) rfl), (zt1 (i := 1) (by decide +kernel) rfl), ⟨by decide +kernel, by decide +kernel, by decide +kernel⟩, by decide, Or.inr ⟨"LoftGraves", List.mem_of_getElem? (i := 55) (by decide +kernel)⟩⟩, (zt2 (i := 139) (by decide +kernel) rfl)⟩
theorem kX6_106 : zCallV RX6 106 MX1_readFrom 1 := ⟨⟨(zt2 (i := 152) (by decide +kernel) rfl), (zt1 (i := 3) (by decide +kernel) rfl), ⟨by decide +kernel, by decide +kernel, by decide +kernel⟩, by decide, Or.inr ⟨"LoftGraves", List.mem_of_getElem? (i := 56) (by decide +kernel)⟩⟩, (zt2 (i := 151) (by decide +kernel) rfl), (ztp (i := 17) (by decide +kernel) rfl)⟩
theorem kX1_31 : zCallV RX1 31 MX5_begin 0 := ⟨⟨(zt2 (i := 37) (by decide +kernel) rfl), (zt1 (i := 2) (by decide +kernel) rfl), ⟨by decide +kernel, by decide +kernel, by decide +kernel⟩, by decide, Or.inr ⟨"LoftGraves", List.mem_of_getElem? (i := 57) (by decide +kernel)⟩⟩, (zt2 (i := 36) (by decide +kernel) rfl), (ztp (i := 4) (by decide +kernel) rfl)⟩
theorem kX1_36 : zCallV RX1 36 MX5_goesOn 0 := ⟨⟨(zt2 (i := 41) (by decide +kernel) rfl), (zt1 (i := 2) (by decide +kernel) rfl), ⟨by decide +kernel, by decide +kernel, by decide +kernel⟩, by decide, Or.inr ⟨"LoftGraves", List.mem_of_getElem? (i := 58) (by decide +kernel)⟩⟩, (zt2 (i := 40) (by decide +kernel) rfl), (ztp (i := 5) (by decide +kernel) rfl)⟩
theorem kX1_49 : zCallV RX1 49 MX5_takeWord 1 := ⟨⟨(zt2 (i := 58) (by decide +kernel) rfl), (zt1 (i := 2) (by decide +kernel) rfl), ⟨by decide +kernel, by decide +kernel, by decide +kernel⟩, by decide, Or.inr ⟨"LoftGraves", List.mem_of_getElem? (i := 59) (by decide +kernel)⟩⟩, (zt2 (i := 57) (by decide +kernel) rfl), (ztp (i := 9) (by decide +kernel) rfl)⟩
theorem kX1_59 : zCallV RX1 59 MX5_blame 2 := ⟨⟨(zt2 (i := 114) (by decide +kernel) rfl), (zt1 (i := 2) (by decide +kernel) rfl), ⟨by decide +kernel, by decide +kernel, by decide +kernel⟩, by decide, Or.inr ⟨"LoftGraves", List.mem_of_getElem? (i := 60) (by decide +kernel)⟩⟩, (zt2 (i := 113) (by decide +kernel) rfl), (ztp (i := 11) (by decide +kernel) rfl)⟩
theorem kX1_23 : zCallS RX1 23 MX6_at 2 := ⟨⟨(zt2 (i := 143) (by decide +kernel) rfl), (zt1 (i := 1) (by decide +kernel) rfl), ⟨by decide +kernel, by decide +kernel, by decide +kernel⟩, by decide, Or.inr ⟨"LoftGraves", List.mem_of_getElem? (i := 61) (by decide +kernel)⟩⟩, (zt2 (i := 142) (by decide +kernel) rfl)⟩
theorem kX1_71 : zCallV RX1 71 MX5_takeStop 0 := ⟨⟨(zt2 (i := 123) (by decide +kernel) rfl), (zt1 (i := 2) (by decide +kernel) rfl), ⟨by decide +kernel, by decide +kernel, by decide +kernel⟩, by decide, Or.inr ⟨"LoftGraves", List.mem_of_getElem? (i := 62) (by decide +kernel)⟩⟩, (zt2 (i := 122) (by decide +kernel) rfl), (ztp (i := 13) (by decide +kernel) rfl)⟩
theorem kX6_107 : zCallV RX6 107 MX1_copyFrom 1 := ⟨⟨(zt2 (i := 175) (by decide +kernel) rfl), (zt1 (i := 3) (by decide +kernel) rfl), ⟨by decide +kernel, by decide +kernel, by decide +kernel⟩, by decide, Or.inr ⟨"LoftGraves", List.mem_of_getElem? (i := 63) (by decide +kernel)⟩⟩, (zt2 (i := 174) (by decide +kernel) rfl), (ztp (i := 20) (by decide +kernel) rfl)⟩
theorem kX1_27 : zCallS RX1 27 MX6_copyRow 2 := ⟨⟨(zt2 (i := 140) (by decide +kernel) rfl), (zt1 (i := 1) (by decide +kernel) rfl), ⟨by decide +kernel, by decide +kernel, by decide +kernel⟩, by decide, Or.inr ⟨"LoftGraves", List.mem_of_getElem? (i := 64) (by decide +kernel)⟩⟩, (zt2 (i := 139) (by decide +kernel) rfl)⟩
theorem kX6_123 : zCallV RX6 123 MX3_waiting 0 := ⟨⟨(zt2 (i := 188) (by decide +kernel) rfl), (zt1 (i := 4) (by decide +kernel) rfl), ⟨by decide +kernel, by decide +kernel, by decide +kernel⟩, by decide, Or.inr ⟨"LoftGraves", List.mem_of_getElem? (i := 65) (by decide +kernel)⟩⟩, (zt2 (i := 187) (by decide +kernel) rfl), (ztp (i := 21) (by decide +kernel) rfl)⟩
theorem kX3_118 : zCallS RX3 118 MX6_at 2 := ⟨⟨(zt2 (i := 143) (by decide +kernel) rfl), (zt1 (i := 1) (by decide +kernel) rfl), ⟨by decide +kernel, by decide +kernel, by decide +kernel⟩, by decide, Or.inr ⟨"LoftGraves", List.mem_of_getElem? (i := 66) (by decide +kernel)⟩⟩, (zt2 (i := 142) (by decide +kernel) rfl)⟩
theorem kX3_122 : zCallS RX3 122 MX6_bit 1 := ⟨⟨(zt1 (i := 218) (by decide +kernel) rfl), (zt1 (i := 1) (by decide +kernel) rfl), ⟨by decide +kernel, by decide +kernel, by decide +kernel⟩, by decide, Or.inr ⟨"LoftGraves", List.mem_of_getElem? (i := 67) (by decide +kernel)⟩⟩, (zt1 (i := 217) (by decide +kernel) rfl)⟩
theorem kX6_127 : zCallV RX6 127 MX3_laid 0 := ⟨⟨(zt2 (i := 192) (by decide +kernel) rfl), (zt1 (i := 4) (by decide +kernel) rfl), ⟨by decide +kernel, by decide +kernel, by decide +kernel⟩, by decide, Or.inr ⟨"LoftGraves", List.mem_of_getElem? (i := 68) (by decide +kernel)⟩⟩, (zt2 (i := 191) (by decide +kernel) rfl), (ztp (i := 22) (by decide +kernel) rfl)⟩
theorem kX6_133 : zCallV RX6 133 MX3_hasYard 1 := ⟨⟨(zt2 (i := 203) (by decide +kernel) rfl), (zt1 (i := 4) (by decide +kernel) rfl), ⟨by decide +kernel, by decide +kernel, by decide +kernel⟩, by decide, Or.inr ⟨"LoftGraves", List.mem_of_getElem? (i := 69) (by decide +kernel)⟩⟩, (zt2 (i := 202) (by decide +kernel) rfl), (ztp (i := 23) (by decide +kernel) rfl)⟩
theorem kX6_146 : zCallV RX6 146 MX3_whoLiesIn 1 := ⟨⟨(zt2 (i := 208) (by decide +kernel) rfl), (zt1 (i := 4) (by decide +kernel) rfl), ⟨by decide +kernel, by decide +kernel, by decide +kernel⟩, by decide, Or.inr ⟨"LoftGraves", List.mem_of_getElem? (i := 70) (by decide +kernel)⟩⟩, (zt2 (i := 207) (by decide +kernel) rfl), (ztp (i := 24) (by decide +kernel) rfl)⟩
theorem kX6_150 : zCallV RX6 150 MX3_hasDead 1 := ⟨⟨(zt2 (i := 216) (by decide +kernel) rfl), (zt1 (i := 4) (by decide +kernel) rfl), ⟨by decide +kernel, by decide +kernel, by decide +kernel⟩, by decide, Or.inr ⟨"LoftGraves", List.mem_of_getElem? (i := 71) (by decide +kernel)⟩⟩, (zt2 (i := 215) (by decide +kernel) rfl), (ztp (i := 25) (by decide +kernel) rfl)⟩
theorem kX6_184 : zCallV RX6 184 MX3_placeAmong 3 := ⟨⟨(zt2 (i := 227) (by decide +kernel) rfl), (zt1 (i := 4) (by decide +kernel) rfl), ⟨by decide +kernel, by decide +kernel, by decide +kernel⟩, by decide, Or.inr ⟨"LoftGraves", List.mem_of_getElem? (i := 72) (by decide +kernel)⟩⟩, (zt2 (i := 226) (by decide +kernel) rfl), (ztp (i := 26) (by decide +kernel) rfl)⟩
theorem kX3_138 : zCallS RX3 138 MX6_has 2 := ⟨⟨(zt2 (i := 219) (by decide +kernel) rfl), (zt1 (i := 1) (by decide +kernel) rfl), ⟨by decide +kernel, by decide +kernel, by decide +kernel⟩, by decide, Or.inr ⟨"LoftGraves", List.mem_of_getElem? (i := 73) (by decide +kernel)⟩⟩, (zt2 (i := 218) (by decide +kernel) rfl)⟩
theorem kX6_202 : zCallV RX6 202 MX3_passDay 1 := ⟨⟨(zt3 (i := 28) (by decide +kernel) rfl), (zt1 (i := 4) (by decide +kernel) rfl), ⟨by decide +kernel, by decide +kernel, by decide +kernel⟩, by decide, Or.inr ⟨"LoftGraves", List.mem_of_getElem? (i := 74) (by decide +kernel)⟩⟩, (zt3 (i := 27) (by decide +kernel) rfl), (ztp (i := 30) (by decide +kernel) rfl)⟩
theorem kX6_205 : zCallV RX6 205 MX3_soft 0 := ⟨⟨(zt3 (i := 45) (by decide +kernel) rfl), (zt1 (i := 4) (by decide +kernel) rfl), ⟨by decide +kernel, by decide +kernel, by decide +kernel⟩, by decide, Or.inr ⟨"LoftGraves", List.mem_of_getElem? (i := 75) (by decide +kernel)⟩⟩, (zt3 (i := 44) (by decide +kernel) rfl), (ztp (i := 33) (by decide +kernel) rfl)⟩
theorem kX6_208 : zCallV RX6 208 MX3_passNight 1 := ⟨⟨(zt3 (i := 53) (by decide +kernel) rfl), (zt1 (i := 4) (by decide +kernel) rfl), ⟨by decide +kernel, by decide +kernel, by decide +kernel⟩, by decide, Or.inr ⟨"LoftGraves", List.mem_of_getElem? (i := 76) (by decide +kernel)⟩⟩, (zt3 (i := 52) (by decide +kernel) rfl), (ztp (i := 34) (by decide +kernel) rfl)⟩
theorem kX6_211 : zCallV RX6 211 MX3_boardless 0 := ⟨⟨(zt3 (i := 65) (by decide +kernel) rfl), (zt1 (i := 4) (by decide +kernel) rfl), ⟨by decide +kernel, by decide +kernel, by decide +kernel⟩, by decide, Or.inr ⟨"LoftGraves", List.mem_of_getElem? (i := 77) (by decide +kernel)⟩⟩, (zt3 (i := 64) (by decide +kernel) rfl), (ztp (i := 36) (by decide +kernel) rfl)⟩
theorem kX6_214 : zCallV RX6 214 MX3_taken 0 := ⟨⟨(zt3 (i := 32) (by decide +kernel) rfl), (zt1 (i := 4) (by decide +kernel) rfl), ⟨by decide +kernel, by decide +kernel, by decide +kernel⟩, by decide, Or.inr ⟨"LoftGraves", List.mem_of_getElem? (i := 78) (by decide +kernel)⟩⟩, (zt3 (i := 31) (by decide +kernel) rfl), (ztp (i := 31) (by decide +kernel) rfl)⟩
theorem kX6_217 : zCallV RX6 217 MX3_layDown 2 := ⟨⟨(zt3 (i := 74) (by decide +kernel) rfl), (zt1 (i := 4) (by decide +kernel) rfl), ⟨by decide +kernel, by decide +kernel, by decide +kernel⟩, by decide, Or.inr ⟨"LoftGraves", List.mem_of_getElem? (i := 79) (by decide +kernel)⟩⟩, (zt3 (i := 73) (by decide +kernel) rfl), (ztp (i := 37) (by decide +kernel) rfl)⟩
theorem kX6_220 : zCallV RX6 220 MX3_draw 1 := ⟨⟨(zt3 (i := 57) (by decide +kernel) rfl), (zt1 (i := 4) (by decide +kernel) rfl), ⟨by decide +kernel, by decide +kernel, by decide +kernel⟩, by decide, Or.inr ⟨"LoftGraves", List.mem_of_getElem? (i := 80) (by decide +kernel)⟩⟩, (zt3 (i := 56) (by decide +kernel) rfl), (ztp (i := 35) (by decide +kernel) rfl)⟩
theorem kX6_231 : zCallV RX6 231 MX3_firstAmong 2 := ⟨⟨(zt3 (i := 87) (by decide +kernel) rfl), (zt1 (i := 4) (by decide +kernel) rfl), ⟨by decide +kernel, by decide +kernel, by decide +kernel⟩, by decide, Or.inr ⟨"LoftGraves", List.mem_of_getElem? (i := 81) (by decide +kernel)⟩⟩, (zt3 (i := 86) (by decide +kernel) rfl), (ztp (i := 39) (by decide +kernel) rfl)⟩
theorem kX6_235 : zCallV RX6 235 MX3_softAndFree 0 := ⟨⟨(zt3 (i := 92) (by decide +kernel) rfl), (zt1 (i := 4) (by decide +kernel) rfl), ⟨by decide +kernel, by decide +kernel, by decide +kernel⟩, by decide, Or.inr ⟨"LoftGraves", List.mem_of_getElem? (i := 82) (by decide +kernel)⟩⟩, (zt3 (i := 91) (by decide +kernel) rfl), (ztp (i := 40) (by decide +kernel) rfl)⟩
theorem kX6_241 : zCallV RX6 241 MX4_begin 2 := ⟨⟨(zt3 (i := 111) (by decide +kernel) rfl), (zt1 (i := 6) (by decide +kernel) rfl), ⟨by decide +kernel, by decide +kernel, by decide +kernel⟩, by decide, Or.inr ⟨"LoftGraves", List.mem_of_getElem? (i := 83) (by decide +kernel)⟩⟩, (zt3 (i := 110) (by decide +kernel) rfl), (ztp (i := 41) (by decide +kernel) rfl)⟩
theorem kX4_32 : zCallS RX4 32 MX6_put 3 := ⟨⟨(zt1 (i := 207) (by decide +kernel) rfl), (zt1 (i := 1) (by decide +kernel) rfl), ⟨by decide +kernel, by decide +kernel, by decide +kernel⟩, by decide, Or.inr ⟨"LoftGraves", List.mem_of_getElem? (i := 84) (by decide +kernel)⟩⟩, (zt1 (i := 206) (by decide +kernel) rfl)⟩
theorem kX4_36 : zCallV RX4 36 MX3_hasDead 1 := ⟨⟨(zt2 (i := 216) (by decide +kernel) rfl), (zt1 (i := 4) (by decide +kernel) rfl), ⟨by decide +kernel, by decide +kernel, by decide +kernel⟩, by decide, Or.inr ⟨"LoftGraves", List.mem_of_getElem? (i := 85) (by decide +kernel)⟩⟩, (zt2 (i := 215) (by decide +kernel) rfl), (ztp (i := 25) (by decide +kernel) rfl)⟩
theorem kX4_45 : zCallS RX4 45 MX6_at 2 := ⟨⟨(zt2 (i := 143) (by decide +kernel) rfl), (zt1 (i := 1) (by decide +kernel) rfl), ⟨by decide +kernel, by decide +kernel, by decide +kernel⟩, by decide, Or.inr ⟨"LoftGraves", List.mem_of_getElem? (i := 86) (by decide +kernel)⟩⟩, (zt2 (i := 142) (by decide +kernel) rfl)⟩
theorem kX4_49 : zCallV RX4 49 MX3_claim 2 := ⟨⟨(zt2 (i := 235) (by decide +kernel) rfl), (zt1 (i := 4) (by decide +kernel) rfl), ⟨by decide +kernel, by decide +kernel, by decide +kernel⟩, by decide, Or.inr ⟨"LoftGraves", List.mem_of_getElem? (i := 87) (by decide +kernel)⟩⟩, (zt2 (i := 234) (by decide +kernel) rfl), (ztp (i := 28) (by decide +kernel) rfl)⟩
theorem kX4_53 : zCallS RX4 53 MX6_bit 1 := ⟨⟨(zt1 (i := 218) (by decide +kernel) rfl), (zt1 (i := 1) (by decide +kernel) rfl), ⟨by decide +kernel, by decide +kernel, by decide +kernel⟩, by decide, Or.inr ⟨"LoftGraves", List.mem_of_getElem? (i := 88) (by decide +kernel)⟩⟩, (zt1 (i := 217) (by decide +kernel) rfl)⟩
theorem kX6_245 : zCallV RX6 245 MX4_whoOffends 1 := ⟨⟨(zt3 (i := 120) (by decide +kernel) rfl), (zt1 (i := 6) (by decide +kernel) rfl), ⟨by decide +kernel, by decide +kernel, by decide +kernel⟩, by decide, Or.inr ⟨"LoftGraves", List.mem_of_getElem? (i := 89) (by decide +kernel)⟩⟩, (zt3 (i := 119) (by decide +kernel) rfl), (ztp (i := 42) (by decide +kernel) rfl)⟩
theorem kX4_60 : zCallS RX4 60 MX6_has 2 := ⟨⟨(zt2 (i := 219) (by decide +kernel) rfl), (zt1 (i := 1) (by decide +kernel) rfl), ⟨by decide +kernel, by decide +kernel, by decide +kernel⟩, by decide, Or.inr ⟨"LoftGraves", List.mem_of_getElem? (i := 90) (by decide +kernel)⟩⟩, (zt2 (i := 218) (by decide +kernel) rfl)⟩
theorem kX6_248 : zCallV RX6 248 MX4_quarrelsNow 0 := ⟨⟨(zt3 (i := 133) (by decide +kernel) rfl), (zt1 (i := 6) (by decide +kernel) rfl), ⟨by decide +kernel, by decide +kernel, by decide +kernel⟩, by decide, Or.inr ⟨"LoftGraves", List.mem_of_getElem? (i := 91) (by decide +kernel)⟩⟩, (zt3 (i := 132) (by decide +kernel) rfl), (ztp (i := 44) (by decide +kernel) rfl)⟩
theorem kX6_251 : zCallV RX6 251 MX4_find 2 := ⟨⟨(zt3 (i := 152) (by decide +kernel) rfl), (zt1 (i := 6) (by decide +kernel) rfl), ⟨by decide +kernel, by decide +kernel, by decide +kernel⟩, by decide, Or.inr ⟨"LoftGraves", List.mem_of_getElem? (i := 92) (by decide +kernel)⟩⟩, (zt3 (i := 151) (by decide +kernel) rfl), (ztp (i := 47) (by decide +kernel) rfl)⟩
theorem kX4_92 : zCallS RX4 92 MX6_copyRow 2 := ⟨⟨(zt2 (i := 140) (by decide +kernel) rfl), (zt1 (i := 1) (by decide +kernel) rfl), ⟨by decide +kernel, by decide +kernel, by decide +kernel⟩, by decide, Or.inr ⟨"LoftGraves", List.mem_of_getElem? (i := 93) (by decide +kernel)⟩⟩, (zt2 (i := 139) (by decide +kernel) rfl)⟩
theorem kX6_264 : zCallV RX6 264 MX3_daysUntilSoft 2 := ⟨⟨(zt3 (i := 166) (by decide +kernel) rfl), (zt1 (i := 4) (by decide +kernel) rfl), ⟨by decide +kernel, by decide +kernel, by decide +kernel⟩, by decide, Or.inr ⟨"LoftGraves", List.mem_of_getElem? (i := 94) (by decide +kernel)⟩⟩, (zt3 (i := 165) (by decide +kernel) rfl), (ztp (i := 48) (by decide +kernel) rfl)⟩
theorem kX6_273 : zCallV RX6 273 MX2_countWays 1 := ⟨⟨(zt3 (i := 199) (by decide +kernel) rfl), (zt1 (i := 7) (by decide +kernel) rfl), ⟨by decide +kernel, by decide +kernel, by decide +kernel⟩, by decide, Or.inr ⟨"LoftGraves", List.mem_of_getElem? (i := 95) (by decide +kernel)⟩⟩, (zt3 (i := 198) (by decide +kernel) rfl), (ztp (i := 51) (by decide +kernel) rfl)⟩
theorem kX2_21 : zCallS RX2 21 MX6_allBelow 1 := ⟨⟨(zt1 (i := 215) (by decide +kernel) rfl), (zt1 (i := 1) (by decide +kernel) rfl), ⟨by decide +kernel, by decide +kernel, by decide +kernel⟩, by decide, Or.inr ⟨"LoftGraves", List.mem_of_getElem? (i := 96) (by decide +kernel)⟩⟩, (zt1 (i := 214) (by decide +kernel) rfl)⟩
theorem kX2_25 : zCallS RX2 25 MX6_put 3 := ⟨⟨(zt1 (i := 207) (by decide +kernel) rfl), (zt1 (i := 1) (by decide +kernel) rfl), ⟨by decide +kernel, by decide +kernel, by decide +kernel⟩, by decide, Or.inr ⟨"LoftGraves", List.mem_of_getElem? (i := 97) (by decide +kernel)⟩⟩, (zt1 (i := 206) (by decide +kernel) rfl)⟩
theorem kX2_37 : zCallS RX2 37 MX6_at 2 := ⟨⟨(zt2 (i := 143) (by decide +kernel) rfl), (zt1 (i := 1) (by decide +kernel) rfl), ⟨by decide +kernel, by decide +kernel, by decide +kernel⟩, by decide, Or.inr ⟨"LoftGraves", List.mem_of_getElem? (i := 98) (by decide +kernel)⟩⟩, (zt2 (i := 142) (by decide +kernel) rfl)⟩
theorem kX2_41 : zCallS RX2 41 MX6_has 2 := ⟨⟨(zt2 (i := 219) (by decide +kernel) rfl), (zt1 (i := 1) (by decide +kernel) rfl), ⟨by decide +kernel, by decide +kernel, by decide +kernel⟩, by decide, Or.inr ⟨"LoftGraves", List.mem_of_getElem? (i := 99) (by decide +kernel)⟩⟩, (zt2 (i := 218) (by decide +kernel) rfl)⟩
theorem kX2_45 : zCallS RX2 45 MX6_bit 1 := ⟨⟨(zt1 (i := 218) (by decide +kernel) rfl), (zt1 (i := 1) (by decide +kernel) rfl), ⟨by decide +kernel, by decide +kernel, by decide +kernel⟩, by decide, Or.inr ⟨"LoftGraves", List.mem_of_getElem? (i := 100) (by decide +kernel)⟩⟩, (zt1 (i := 217) (by decide +kernel) rfl)⟩
theorem kX6_277 : zCallV RX6 277 MX2_weigh 1 := ⟨⟨(zt3 (i := 213) (by decide +kernel) rfl), (zt1 (i := 7) (by decide +kernel) rfl), ⟨by decide +kernel, by decide +kernel, by decide +kernel⟩, by decide, Or.inr ⟨"LoftGraves", List.mem_of_getElem? (i := 101) (by decide +kernel)⟩⟩, (zt3 (i := 212) (by decide +kernel) rfl), (ztp (i := 52) (by decide +kernel) rfl)⟩
theorem kX6_280 : zCallV RX6 280 MX2_fewestChanges 0 := ⟨⟨(zt3 (i := 222) (by decide +kernel) rfl), (zt1 (i := 7) (by decide +kernel) rfl), ⟨by decide +kernel, by decide +kernel, by decide +kernel⟩, by decide, Or.inr ⟨"LoftGraves", List.mem_of_getElem? (i := 102) (by decide +kernel)⟩⟩, (zt3 (i := 221) (by decide +kernel) rfl), (ztp (i := 54) (by decide +kernel) rfl)⟩
theorem kX6_283 : zCallV RX6 283 MX2_nameOf 2 := ⟨⟨(zt3 (i := 226) (by decide +kernel) rfl), (zt1 (i := 7) (by decide +kernel) rfl), ⟨by decide +kernel, by decide +kernel, by decide +kernel⟩, by decide, Or.inr ⟨"LoftGraves", List.mem_of_getElem? (i := 103) (by decide +kernel)⟩⟩, (zt3 (i := 225) (by decide +kernel) rfl), (ztp (i := 55) (by decide +kernel) rfl)⟩
theorem kX6_287 : zCallV RX6 287 MX3_ranksOf 1 := ⟨⟨(zt3 (i := 234) (by decide +kernel) rfl), (zt1 (i := 4) (by decide +kernel) rfl), ⟨by decide +kernel, by decide +kernel, by decide +kernel⟩, by decide, Or.inr ⟨"LoftGraves", List.mem_of_getElem? (i := 104) (by decide +kernel)⟩⟩, (zt3 (i := 233) (by decide +kernel) rfl), (ztp (i := 56) (by decide +kernel) rfl)⟩
theorem kX6_293 : zCallV RX6 293 MX0_add 2 := ⟨⟨(zt4 (i := 3) (by decide +kernel) rfl), (zt1 (i := 5) (by decide +kernel) rfl), ⟨by decide +kernel, by decide +kernel, by decide +kernel⟩, by decide, Or.inr ⟨"LoftGraves", List.mem_of_getElem? (i := 105) (by decide +kernel)⟩⟩, (zt4 (i := 2) (by decide +kernel) rfl), (ztp (i := 57) (by decide +kernel) rfl)⟩
theorem kX0_22 : zCallS RX0 22 MX6_put 3 := ⟨⟨(zt1 (i := 207) (by decide +kernel) rfl), (zt1 (i := 1) (by decide +kernel) rfl), ⟨by decide +kernel, by decide +kernel, by decide +kernel⟩, by decide, Or.inr ⟨"LoftGraves", List.mem_of_getElem? (i := 106) (by decide +kernel)⟩⟩, (zt1 (i := 206) (by decide +kernel) rfl)⟩
theorem nwL_7 : zNw RL 7 6 12 [.null, .null, .null, .null, .null, .null, .null, .int 0, .int 0, .null, .null, .null] := ⟨RX6, TX6, tyX6, rfl, zlX6, ⟨tyX6_ok, nmX6⟩, (zt1 (i := 15) (by decide +kernel) rfl), (zt1 (i := 16) (by decide +kernel) rfl), (zt1 (i := 1) (by decide +kernel) rfl), fun j hj => by
  match j, hj with
  | 0, _ => rfl
  | 1, _ => rfl
  | 2, _ => rfl
  | 3, _ => rfl
  | 4, _ => rfl
  | 5, _ => rfl
  | 6, _ => rfl
  | 7, _ => rfl
  | 8, _ => rfl
  | 9, _ => rfl
  | 10, _ => rfl
  | 11, _ => rfl
  | j + 12, hj => exact absurd hj (by omega), fun g => rfl⟩
theorem nwX6_7 : zNw RX6 7 5 5 [.null, .int 0, .int 0, .int 0, .int 0] := ⟨RX5, TX5, tyX5, rfl, zlX5, ⟨tyX5_ok, nmX5⟩, (zt1 (i := 23) (by decide +kernel) rfl), (zt1 (i := 24) (by decide +kernel) rfl), (zt1 (i := 2) (by decide +kernel) rfl), fun j hj => by
  match j, hj with
  | 0, _ => rfl
  | 1, _ => rfl
  | 2, _ => rfl
  | 3, _ => rfl
  | 4, _ => rfl
  | j + 5, hj => exact absurd hj (by omega), fun g => rfl⟩
theorem nwX6_16 : zNw RX6 16 1 2 [.null, .int 0] := ⟨RX1, TX1, tyX1, rfl, zlX1, ⟨tyX1_ok, nmX1⟩, (zt1 (i := 51) (by decide +kernel) rfl), (zt1 (i := 52) (by decide +kernel) rfl), (zt1 (i := 3) (by decide +kernel) rfl), fun j hj => by
  match j, hj with
  | 0, _ => rfl
  | 1, _ => rfl
  | j + 2, hj => exact absurd hj (by omega), fun g => rfl⟩
theorem nwX6_26 : zNw RX6 26 3 16 [.int 0, .int 0, .int 0, .int 0, .null, .null, .null, .null, .null, .null, .null, .null, .null, .int 0, .int 0, .int 0] := ⟨RX3, TX3, tyX3, rfl, zlX3, ⟨tyX3_ok, nmX3⟩, (zt1 (i := 68) (by decide +kernel) rfl), (zt1 (i := 69) (by decide +kernel) rfl), (zt1 (i := 4) (by decide +kernel) rfl), fun j hj => by
  match j, hj with
  | 0, _ => rfl
  | 1, _ => rfl
  | 2, _ => rfl
  | 3, _ => rfl
  | 4, _ => rfl
  | 5, _ => rfl
  | 6, _ => rfl
  | 7, _ => rfl
  | 8, _ => rfl
  | 9, _ => rfl
  | 10, _ => rfl
  | 11, _ => rfl
  | 12, _ => rfl
  | 13, _ => rfl
  | 14, _ => rfl
  | 15, _ => rfl
  | j + 16, hj => exact absurd hj (by omega), fun g => rfl⟩
theorem nwX6_49 : zNw RX6 49 0 3 [.null, .null, .int 0] := ⟨RX0, TX0, tyX0, rfl, zlX0, ⟨tyX0_ok, nmX0⟩, (zt1 (i := 144) (by decide +kernel) rfl), (zt1 (i := 145) (by decide +kernel) rfl), (zt1 (i := 5) (by decide +kernel) rfl), fun j hj => by
  match j, hj with
  | 0, _ => rfl
  | 1, _ => rfl
  | 2, _ => rfl
  | j + 3, hj => exact absurd hj (by omega), fun g => rfl⟩
theorem nwX6_56 : zNw RX6 56 4 6 [.null, .null, .null, .null, .int 0, .int 0] := ⟨RX4, TX4, tyX4, rfl, zlX4, ⟨tyX4_ok, nmX4⟩, (zt1 (i := 163) (by decide +kernel) rfl), (zt1 (i := 164) (by decide +kernel) rfl), (zt1 (i := 6) (by decide +kernel) rfl), fun j hj => by
  match j, hj with
  | 0, _ => rfl
  | 1, _ => rfl
  | 2, _ => rfl
  | 3, _ => rfl
  | 4, _ => rfl
  | 5, _ => rfl
  | j + 6, hj => exact absurd hj (by omega), fun g => rfl⟩
theorem nwX6_63 : zNw RX6 63 2 1 [.null] := ⟨RX2, TX2, tyX2, rfl, zlX2, ⟨tyX2_ok, nmX2⟩, (zt1 (i := 191) (by decide +kernel) rfl), (zt1 (i := 192) (by decide +kernel) rfl), (zt1 (i := 7) (by decide +kernel) rfl), fun j hj => by
  match j, hj with
  | 0, _ => rfl
  | j + 1, hj => exact absurd hj (by omega), fun g => rfl⟩
theorem nX6_77 : Cond.constant RX6 77 (-1000000002) ∈ zT := (zt2 (i := 20) (by decide +kernel) rfl)
theorem nX6_82 : Cond.constant RX6 82 (-1000000004) ∈ zT := (zt2 (i := 21) (by decide +kernel) rfl)
theorem nX6_137 : Cond.constant RX6 137 (-1000000001) ∈ zT := (zt2 (i := 204) (by decide +kernel) rfl)
theorem nX3_147 : Cond.constantLong RX3 147 (10000) ∈ zT := (zt2 (i := 236) (by decide +kernel) rfl)
theorem nX3_155 : Cond.constantLong RX3 155 (8) ∈ zT := (zt3 (i := 1) (by decide +kernel) rfl)
theorem nX3_157 : Cond.constantLong RX3 157 (7) ∈ zT := (zt3 (i := 2) (by decide +kernel) rfl)
theorem nX3_163 : Cond.constantLong RX3 163 (1000000000000000000) ∈ zT := (zt3 (i := 3) (by decide +kernel) rfl)
theorem nX6_192 : Cond.constant RX6 192 (-1000000003) ∈ zT := (zt3 (i := 13) (by decide +kernel) rfl)
theorem nX3_181 : Cond.constantLong RX3 181 (1103515245) ∈ zT := (zt3 (i := 58) (by decide +kernel) rfl)
theorem nX3_183 : Cond.constantLong RX3 183 (12345) ∈ zT := (zt3 (i := 59) (by decide +kernel) rfl)
theorem nX3_185 : Cond.constantLong RX3 185 (2147483647) ∈ zT := (zt3 (i := 60) (by decide +kernel) rfl)
theorem nX3_187 : Cond.constant RX3 187 (65536) ∈ zT := (zt3 (i := 61) (by decide +kernel) rfl)
theorem nX3_168 : Cond.constantLong RX3 168 (-1) ∈ zT := (zt3 (i := 88) (by decide +kernel) rfl)
theorem nJ6_264 : Cond.constant RJ6 264 (65536) ∈ zT := (zt3 (i := 97) (by decide +kernel) rfl)
theorem nJ6_265 : Cond.constant RJ6 265 (1431655765) ∈ zT := (zt3 (i := 101) (by decide +kernel) rfl)
theorem nJ6_266 : Cond.constant RJ6 266 (858993459) ∈ zT := (zt3 (i := 102) (by decide +kernel) rfl)
theorem nJ6_267 : Cond.constant RJ6 267 (252645135) ∈ zT := (zt3 (i := 103) (by decide +kernel) rfl)
theorem nwL_10 : zNw RL 10 7 31 [.null, .null, .int 0, .int 0, .null, .null, .null, .null, .null, .null, .int 0, .null, .int 0, .int 0, .int 0, .int 0, .int 0, .int 0, .int 0, .int 0, .int 0, .null, .null, .null, .null, .int 0, .null, .null, .null, .null, .int 0] := ⟨RX7, TX7, tyX7, rfl, zlX7, ⟨tyX7_ok, nmX7⟩, (zt4 (i := 25) (by decide +kernel) rfl), (zt4 (i := 26) (by decide +kernel) rfl), (zt1 (i := 8) (by decide +kernel) rfl), fun j hj => by
  match j, hj with
  | 0, _ => rfl
  | 1, _ => rfl
  | 2, _ => rfl
  | 3, _ => rfl
  | 4, _ => rfl
  | 5, _ => rfl
  | 6, _ => rfl
  | 7, _ => rfl
  | 8, _ => rfl
  | 9, _ => rfl
  | 10, _ => rfl
  | 11, _ => rfl
  | 12, _ => rfl
  | 13, _ => rfl
  | 14, _ => rfl
  | 15, _ => rfl
  | 16, _ => rfl
  | 17, _ => rfl
  | 18, _ => rfl
  | 19, _ => rfl
  | 20, _ => rfl
  | 21, _ => rfl
  | 22, _ => rfl
  | 23, _ => rfl
  | 24, _ => rfl
  | 25, _ => rfl
  | 26, _ => rfl
  | 27, _ => rfl
  | 28, _ => rfl
  | 29, _ => rfl
  | 30, _ => rfl
  | j + 31, hj => exact absurd hj (by omega), fun g => rfl⟩
theorem nX7_75 : Cond.constantLong RX7 75 (8) ∈ zT := (zt4 (i := 130) (by decide +kernel) rfl)
theorem nX7_81 : Cond.constant RX7 81 (-1000000002) ∈ zT := (zt4 (i := 134) (by decide +kernel) rfl)
theorem nX7_85 : Cond.constant RX7 85 (-1000000004) ∈ zT := (zt4 (i := 135) (by decide +kernel) rfl)
theorem nX7_86 : Cond.constantLong RX7 86 (255) ∈ zT := (zt4 (i := 136) (by decide +kernel) rfl)
theorem nX7_101 : Cond.constantLong RX7 101 (97) ∈ zT := (zt4 (i := 157) (by decide +kernel) rfl)
theorem nX7_103 : Cond.constantLong RX7 103 (122) ∈ zT := (zt4 (i := 158) (by decide +kernel) rfl)
theorem nX7_108 : Cond.constantLong RX7 108 (48) ∈ zT := (zt4 (i := 171) (by decide +kernel) rfl)
theorem nX7_110 : Cond.constantLong RX7 110 (57) ∈ zT := (zt4 (i := 172) (by decide +kernel) rfl)
theorem nX7_116 : Cond.constant RX7 116 (99999) ∈ zT := (zt4 (i := 173) (by decide +kernel) rfl)
theorem nX7_186 : Cond.constant RX7 186 (-1000000001) ∈ zT := (zt4 (i := 216) (by decide +kernel) rfl)
theorem nX7_196 : Cond.constantLong RX7 196 (99) ∈ zT := (zt5 (i := 17) (by decide +kernel) rfl)
theorem nX7_198 : Cond.constantLong RX7 198 (999) ∈ zT := (zt5 (i := 22) (by decide +kernel) rfl)
theorem nX7_200 : Cond.constant RX7 200 (-1000000003) ∈ zT := (zt5 (i := 23) (by decide +kernel) rfl)
theorem nX7_204 : Cond.constantLong RX7 204 (-9) ∈ zT := (zt5 (i := 32) (by decide +kernel) rfl)
theorem nX7_206 : Cond.constantLong RX7 206 (9) ∈ zT := (zt5 (i := 33) (by decide +kernel) rfl)
theorem nX7_225 : Cond.constantLong RX7 225 (10) ∈ zT := (zt5 (i := 50) (by decide +kernel) rfl)
theorem nX7_215 : Cond.constantLong RX7 215 (1103515245) ∈ zT := (zt5 (i := 59) (by decide +kernel) rfl)
theorem nX7_217 : Cond.constantLong RX7 217 (12345) ∈ zT := (zt5 (i := 60) (by decide +kernel) rfl)
theorem nX7_219 : Cond.constantLong RX7 219 (2147483648) ∈ zT := (zt5 (i := 61) (by decide +kernel) rfl)
theorem nX7_221 : Cond.constant RX7 221 (65536) ∈ zT := (zt5 (i := 62) (by decide +kernel) rfl)
theorem nX7_277 : Cond.constantLong RX7 277 (6) ∈ zT := (zt5 (i := 149) (by decide +kernel) rfl)
theorem nL_13 : Cond.constantLong RL 13 (4294967295) ∈ zT := (zt5 (i := 202) (by decide +kernel) rfl)
end
section
/-! THE RUN'S MEMORY: the cells' kinds never change; what they hold is m : cell → place → Int32 -/
abbrev zSh : Type := (FieldType × Nat) ⊕ (Nat × List (Option Nat))
abbrev zmem : Type := Nat → Nat → Int32
def zarr (n : Nat) : zSh := .inl (.int, n)
def zpar (p : Nat) : List zSh := [.inr (3, [none, none, none, none, some (p + 1), some (p + 2), some (p + 3), some (p + 4), some (p + 5), some (p + 6), some (p + 7), some (p + 8), some (p + 9), none, none, none]), zarr 8, zarr 7, zarr 7, zarr 7, zarr 7, zarr 7, zarr 7, zarr 7, zarr 7]
def zshC : List zSh := [.inr (6, [some 1, some 3, some 5, some 7, some 17, some 27, some 37, none, none, some 47, some 50, some 55]), .inr (5, [some 2, none, none, none, none]), .inl (.byte, 400), .inr (1, [some 4, none]), zarr 4, .inr (1, [some 6, none]), zarr 4] ++ (zpar 7 ++ (zpar 17 ++ (zpar 27 ++ (zpar 37 ++ [.inr (0, [some 48, some 49, none]), zarr 20, zarr 20, .inr (4, [some 51, some 52, some 53, some 54, none, none]), zarr 7, zarr 7, zarr 7, zarr 7, .inr (2, [some 56]), zarr 128]))))
def zshR : List zSh := [.inr (7, [some 58, some 59, none, none, some 60, some 61, some 62, some 63, some 64, some 65, none, some 66, none, none, none, none, none, none, none, none, none, some 67, some 68, some 69, some 70, none, some 71, some 72, some 73, some 74, none]), zarr 400, .inl (.boolean, 2), zarr 16, zarr 16, zarr 16, zarr 16, zarr 4, zarr 8, zarr 400, zarr 8, zarr 8, zarr 8, zarr 8, zarr 1024, zarr 1024, zarr 20, zarr 20]
def zshape : List zSh := zshC ++ zshR
def zfs (m : zmem) (k : Nat) : Nat → List (Option Nat) → List Value
  | _, [] => []
  | j, some r :: t => .ref r :: zfs m k (j + 1) t
  | j, none :: t => .int (m k j) :: zfs m k (j + 1) t
def zcell (m : zmem) (k : Nat) : zSh → zE
  | .inl a => .inl (a.1, a.2, .inl (m k))
  | .inr o => .inr (o.1, zfs m k 0 o.2)
def hp (m : zmem) : zH := zshape.mapIdx (fun k s => zcell m k s)
/-- one place anew -/
def mset (m : zmem) (k j : Nat) (v : Int32) : zmem := fun a b => if a = k ∧ b = j then v else m a b
theorem mset_eq (m : zmem) (k j : Nat) (v : Int32) : mset m k j v k j = v := by simp [mset]
theorem mset_ne {m : zmem} {k j a b : Nat} (v : Int32) (h : ¬ (a = k ∧ b = j)) : mset m k j v a b = m a b := by simp [mset, h]
theorem mset_cell {m : zmem} {k j a : Nat} (v : Int32) (h : a ≠ k) : mset m k j v a = m a := by
  funext b
  exact mset_ne v (fun q => h q.1)
theorem mset_row (m : zmem) (k j : Nat) (v : Int32) : mset m k j v k = upd (m k) j v := by
  funext b
  simp [mset, upd]
theorem zfs_get {m : zmem} {k : Nat} : ∀ (t : List (Option Nat)) (j i : Nat) (o : Option Nat), t[i]? = some o → (zfs m k j t)[i]? = some (match o with | some r => .ref r | none => .int (m k (j + i))) := by
  intro t
  induction t with
  | nil => intro j i o h; simp at h
  | cons a t ih =>
    intro j i o h
    cases i with
    | zero =>
      simp at h
      subst h
      cases a <;> rfl
    | succ i =>
      simp at h
      have h2 := ih (j + 1) i o h
      rw [show j + 1 + i = j + (i + 1) by omega] at h2
      cases a <;> simpa [zfs] using h2
theorem zfs_len {m : zmem} {k : Nat} : ∀ (t : List (Option Nat)) (j : Nat), (zfs m k j t).length = t.length := by
  intro t
  induction t with
  | nil => intro j; rfl
  | cons a t ih => intro j; cases a <;> simp [zfs, ih]
theorem zfs_eq {m m' : zmem} {k : Nat} : ∀ (t : List (Option Nat)) (j : Nat), (∀ i, j ≤ i → m k i = m' k i) → zfs m k j t = zfs m' k j t := by
  intro t
  induction t with
  | nil => intro j _; rfl
  | cons a t ih =>
    intro j h
    have h2 := ih (j + 1) (fun i hi => h i (by omega))
    cases a with
    | none => simp only [zfs, h2, h j (Nat.le_refl j)]
    | some r => simp only [zfs, h2]
theorem zfs_set {m : zmem} {k : Nat} {v : Int32} : ∀ (t : List (Option Nat)) (j i : Nat), t[i]? = some none → (zfs m k j t).set i (.int v) = zfs (mset m k (j + i) v) k j t := by
  intro t
  induction t with
  | nil => intro j i h; simp at h
  | cons a t ih =>
    intro j i h
    cases i with
    | zero =>
      simp at h
      subst h
      simp only [zfs, List.set_cons_zero, Nat.add_zero, mset_eq]
      congr 1
      exact zfs_eq t (j + 1) (fun i hi => (mset_ne v (fun q => by have := q.2; omega)).symm)
    | succ i =>
      simp at h
      have h2 := ih (j + 1) i h
      rw [show j + 1 + i = j + (i + 1) by omega] at h2
      cases a with
      | none => simp only [zfs, List.set_cons_succ, h2, mset_ne v (show ¬ (k = k ∧ j = j + (i + 1)) from fun q => by have := q.2; omega)]
      | some r => simp only [zfs, List.set_cons_succ, h2]
theorem hp_get {m : zmem} {k : Nat} {s : zSh} (h : zshape[k]? = some s) : (hp m)[k]? = some (zcell m k s) := by
  simp [hp, List.getElem?_mapIdx, h]
theorem hp_len (m : zmem) : (hp m).length = 75 := by
  simp only [hp, List.length_mapIdx]
  rfl
theorem zcell_eq {m m' : zmem} {k : Nat} (s : zSh) (h : m k = m' k) : zcell m k s = zcell m' k s := by
  cases s with
  | inl a => simp only [zcell, h]
  | inr o =>
    simp only [zcell]
    rw [zfs_eq o.2 0 (fun i _ => by rw [h])]
theorem hp_set {m : zmem} {q j : Nat} {v : Int32} {s : zSh} {e : zE} (h : zshape[q]? = some s) (he : e = zcell (mset m q j v) q s) : (hp m).set q e = hp (mset m q j v) := by
  subst he
  apply List.ext_getElem?
  intro i
  by_cases hi : q = i
  · subst hi
    rw [List.getElem?_set_self (by have := (List.getElem?_eq_some_iff.mp h).1; simpa [hp] using this), hp_get h]
  · rw [List.getElem?_set_ne hi]
    simp only [hp, List.getElem?_mapIdx]
    cases hs : zshape[i]? with
    | none => rfl
    | some s2 => simp only [Option.map_some]; rw [zcell_eq s2 (m' := mset m q j v) (mset_cell v (Ne.symm hi)).symm]
/-- contracts of methods that make no cells: an int's, none's, a long's answer -/
def Qi (r : Int32) (m : zmem) : Option Value → zH → Prop := fun o h => o = some (.int r) ∧ h = hp m
def Q0 (m : zmem) : Option Value → zH → Prop := fun o h => o = none ∧ h = hp m
def Ql (r : Int64) (m : zmem) : Option Value → zH → Prop := fun o h => o = some (.long r) ∧ h = hp m
def Ei (M : zM) (d : Nat) (av : List Value) (m : zmem) (r : Int32) (m1 : zmem) : Prop := Ev M d 0 0 av (hp m) (Qi r m1)
def E0 (M : zM) (d : Nat) (av : List Value) (m m1 : zmem) : Prop := Ev M d 0 0 av (hp m) (Q0 m1)
def El (M : zM) (d : Nat) (av : List Value) (m : zmem) (r : Int64) (m1 : zmem) : Prop := Ev M d 0 0 av (hp m) (Ql r m1)
abbrev zMB (Q : Option Value → zH → Prop) (D : Nat) (M : zM) : zB := (zFm Q 0 0, D, 0, 0, M)
theorem Ei.of {M : zM} {d : Nat} {av : List Value} {m m1 : zmem} {r : Int32} (hy : plainName (zy M).cls = true) (hlen : (lg_sl av).length ≤ zmL M) (body : Z (zMB (Qi r m1) d M) 0 (lv_args 0 av) [] (hp m) 0 0) : Ei M d av m r m1 := Ev.of hy hlen body
theorem E0.of {M : zM} {d : Nat} {av : List Value} {m m1 : zmem} (hy : plainName (zy M).cls = true) (hlen : (lg_sl av).length ≤ zmL M) (body : Z (zMB (Q0 m1) d M) 0 (lv_args 0 av) [] (hp m) 0 0) : E0 M d av m m1 := Ev.of hy hlen body
theorem El.of {M : zM} {d : Nat} {av : List Value} {m m1 : zmem} {r : Int64} (hy : plainName (zy M).cls = true) (hlen : (lg_sl av).length ≤ zmL M) (body : Z (zMB (Ql r m1) d M) 0 (lv_args 0 av) [] (hp m) 0 0) : El M d av m r m1 := Ev.of hy hlen body
theorem yki {B : zB} {pc : Nat} {lv : zL} {st : List Value} {ce sl : Nat} {r : Int32} {m1 : zmem} {o : Option Value} {h1 : zH} (hq : Qi r m1 o h1) (k : Z B pc lv (.int r :: st) (hp m1) ce sl) : Z B pc lv (o.toList ++ st) h1 ce sl := by
  have e1 : o = some (.int r) := hq.1
  have e2 : h1 = hp m1 := hq.2
  rw [e1, e2]
  exact k
theorem ykl {B : zB} {pc : Nat} {lv : zL} {st : List Value} {ce sl : Nat} {r : Int64} {m1 : zmem} {o : Option Value} {h1 : zH} (hq : Ql r m1 o h1) (k : Z B pc lv (.long r :: st) (hp m1) ce sl) : Z B pc lv (o.toList ++ st) h1 ce sl := by
  have e1 : o = some (.long r) := hq.1
  have e2 : h1 = hp m1 := hq.2
  rw [e1, e2]
  exact k
theorem yk0 {B : zB} {pc : Nat} {lv : zL} {st : List Value} {ce sl : Nat} {m1 : zmem} {o : Option Value} {h1 : zH} (hq : Q0 m1 o h1) (k : Z B pc lv st (hp m1) ce sl) : Z B pc lv (o.toList ++ st) h1 ce sl := by
  have e1 : o = none := hq.1
  have e2 : h1 = hp m1 := hq.2
  rw [e1, e2]
  exact k
section ZY
variable {B : zB} {pc : Nat} {lv : zL} {st : List Value} {m : zmem} {ce sl : Nat}
theorem y_getI {q idx ci k : Nat} {ty : FieldType} {fin : Bool} {t : List (Option Nat)} (hf : zFl (zy (zbM B)).cls idx ci k ty fin) (hd : decode (zbc B) pc = .ok (.getfield idx, 3)) (hs : zshape[q]? = some (.inr (ci, t))) (ht : t[k]? = some none) (kk : Z B (pc + 3) lv (.int (m q k) :: st) (hp m) ce sl) : Z B pc lv (.ref q :: st) (hp m) ce sl :=
  z_getf hf hd (hp_get hs) (by have h := zfs_get (m := m) (k := q) t 0 k none ht; rw [Nat.zero_add] at h; exact h) kk
theorem y_getR {q idx ci k r : Nat} {ty : FieldType} {fin : Bool} {t : List (Option Nat)} (hf : zFl (zy (zbM B)).cls idx ci k ty fin) (hd : decode (zbc B) pc = .ok (.getfield idx, 3)) (hs : zshape[q]? = some (.inr (ci, t))) (ht : t[k]? = some (some r)) (kk : Z B (pc + 3) lv (.ref r :: st) (hp m) ce sl) : Z B pc lv (.ref q :: st) (hp m) ce sl :=
  z_getf hf hd (hp_get hs) (zfs_get (m := m) (k := q) t 0 k (some r) ht) kk
theorem y_putI {q idx ci k : Nat} {t : List (Option Nat)} {v : Int32} (hf : zFl (zy (zbM B)).cls idx ci k .int false) (hd : decode (zbc B) pc = .ok (.putfield idx, 3)) (hs : zshape[q]? = some (.inr (ci, t))) (ht : t[k]? = some none) (kk : Z B (pc + 3) lv st (hp (mset m q k v)) ce sl) : Z B pc lv (.int v :: .ref q :: st) (hp m) ce sl := by
  refine z_putf hf (fun _ => rfl) (fun _ => rfl) (by rw [zfs_len]; exact (List.getElem?_eq_some_iff.mp ht).1) hd (hp_get hs) ?_
  rw [hp_set (v := v) (j := k) hs (by simp only [zcell]; rw [zfs_set t 0 k ht, Nat.zero_add])]
  exact kk
theorem y_putZ {q idx ci k : Nat} {t : List (Option Nat)} {v : Int32} (hv : v = 0 ∨ v = 1) (hf : zFl (zy (zbM B)).cls idx ci k .boolean false) (hd : decode (zbc B) pc = .ok (.putfield idx, 3)) (hs : zshape[q]? = some (.inr (ci, t))) (ht : t[k]? = some none) (kk : Z B (pc + 3) lv st (hp (mset m q k v)) ce sl) : Z B pc lv (.int v :: .ref q :: st) (hp m) ce sl := by
  refine z_putf hf (fun _ => by rcases hv with rfl | rfl <;> rfl) (fun _ => by rcases hv with rfl | rfl <;> rfl) (by rw [zfs_len]; exact (List.getElem?_eq_some_iff.mp ht).1) hd (hp_get hs) ?_
  rw [hp_set (v := v) (j := k) hs (by simp only [zcell]; rw [zfs_set t 0 k ht, Nat.zero_add])]
  exact kk
theorem y_iald {q n : Nat} {i : Int32} (hd : decode (zbc B) pc = .ok (.iaload, 1)) (hs : zshape[q]? = some (.inl (.int, n))) (hin : vp_in i n) (kk : Z B (pc + 1) lv (.int (m q i.toNatClampNeg) :: st) (hp m) ce sl) : Z B pc lv (.int i :: .ref q :: st) (hp m) ce sl := z_iald hd (hp_get hs) hin kk
theorem y_bald {q n : Nat} {i : Int32} (hd : decode (zbc B) pc = .ok (.baload, 1)) (hs : zshape[q]? = some (.inl (.byte, n))) (hin : vp_in i n) (kk : Z B (pc + 1) lv (.int (m q i.toNatClampNeg) :: st) (hp m) ce sl) : Z B pc lv (.int i :: .ref q :: st) (hp m) ce sl := z_bald hd (hp_get hs) hin kk
theorem y_zald {q n : Nat} {i : Int32} (hd : decode (zbc B) pc = .ok (.baload, 1)) (hs : zshape[q]? = some (.inl (.boolean, n))) (hin : vp_in i n) (kk : Z B (pc + 1) lv (.int (m q i.toNatClampNeg) :: st) (hp m) ce sl) : Z B pc lv (.int i :: .ref q :: st) (hp m) ce sl := z_zald hd (hp_get hs) hin kk
theorem y_iast {q n : Nat} {i x : Int32} (hd : decode (zbc B) pc = .ok (.iastore, 1)) (hs : zshape[q]? = some (.inl (.int, n))) (hin : vp_in i n) (kk : Z B (pc + 1) lv st (hp (mset m q i.toNatClampNeg x)) ce sl) : Z B pc lv (.int x :: .int i :: .ref q :: st) (hp m) ce sl := by
  refine z_iast hd (hp_get hs) hin ?_
  rw [hp_set (v := x) (j := i.toNatClampNeg) hs (by simp only [zcell]; rw [mset_row])]
  exact kk
theorem y_bast {q n : Nat} {i x : Int32} (hd : decode (zbc B) pc = .ok (.bastore, 1)) (hs : zshape[q]? = some (.inl (.byte, n))) (hin : vp_in i n) (kk : Z B (pc + 1) lv st (hp (mset m q i.toNatClampNeg (vp_nar .byte x))) ce sl) : Z B pc lv (.int x :: .int i :: .ref q :: st) (hp m) ce sl := by
  refine z_bast hd (hp_get hs) hin ?_
  rw [hp_set (v := vp_nar .byte x) (j := i.toNatClampNeg) hs (by simp only [zcell]; rw [mset_row])]
  exact kk
theorem y_zast {q n : Nat} {i x : Int32} (hd : decode (zbc B) pc = .ok (.bastore, 1)) (hs : zshape[q]? = some (.inl (.boolean, n))) (hin : vp_in i n) (kk : Z B (pc + 1) lv st (hp (mset m q i.toNatClampNeg (vp_nar .boolean x))) ce sl) : Z B pc lv (.int x :: .int i :: .ref q :: st) (hp m) ce sl := by
  refine z_zast hd (hp_get hs) hin ?_
  rw [hp_set (v := vp_nar .boolean x) (j := i.toNatClampNeg) hs (by simp only [zcell]; rw [mset_row])]
  exact kk
theorem y_alen {q n : Nat} {ty : FieldType} (v : Int32) (hd : decode (zbc B) pc = .ok (.arraylength, 1)) (hs : zshape[q]? = some (.inl (ty, n))) (hv : Int32.ofNat n = v) (kk : Z B (pc + 1) lv (.int v :: st) (hp m) ce sl) : Z B pc lv (.ref q :: st) (hp m) ce sl := z_alen v hd (hp_get hs) hv kk
theorem y_Si {Mj : zM} {d idx n : Nat} {st0 : List Value} {r : Int32} {m1 : zmem} (av : List Value) (st : List Value) (hw : zCallS (zy (zbM B)).cls idx Mj n) (hE : Ei Mj d av m r m1) (hd : decode (zbc B) pc = .ok (.invokestatic idx, 3)) (hs0 : st0 = av.reverse ++ st) (hn : av.length = n) (hst : (st.map fun v => v.category).sum ≤ 8) (hD : d + 1 ≤ zbD B) (hc : ce ≤ B.2.2.1 ∧ sl ≤ B.2.2.2.1) (k : Z B (pc + 3) lv (.int r :: st) (hp m1) ce sl) : Z B pc lv st0 (hp m) ce sl := by
  subst hs0
  exact z_callS av hw hE hd hn hst hD hc.1 hc.2 (fun o h1 hq => yki hq k)
theorem y_S0 {Mj : zM} {d idx n : Nat} {st0 : List Value} {m1 : zmem} (av : List Value) (st : List Value) (hw : zCallS (zy (zbM B)).cls idx Mj n) (hE : E0 Mj d av m m1) (hd : decode (zbc B) pc = .ok (.invokestatic idx, 3)) (hs0 : st0 = av.reverse ++ st) (hn : av.length = n) (hst : (st.map fun v => v.category).sum ≤ 8) (hD : d + 1 ≤ zbD B) (hc : ce ≤ B.2.2.1 ∧ sl ≤ B.2.2.2.1) (k : Z B (pc + 3) lv st (hp m1) ce sl) : Z B pc lv st0 (hp m) ce sl := by
  subst hs0
  exact z_callS av hw hE hd hn hst hD hc.1 hc.2 (fun o h1 hq => yk0 hq k)
theorem y_Vi {Mj : zM} {d idx n q ci N : Nat} {T : u_T} {t : List (Option Nat)} {st0 : List Value} {r : Int32} {m1 : zmem} (av : List Value) (st : List Value) (hw : zCallV (zy (zbM B)).cls idx Mj n) (hE : Ei Mj d (.ref q :: av) m r m1) (hci : vwCl[ci]? = some ((zy Mj).cls, T, N)) (hs : zshape[q]? = some (.inr (ci, t))) (hd : decode (zbc B) pc = .ok (.invokevirtual idx, 3)) (hs0 : st0 = av.reverse ++ .ref q :: st) (hn : av.length = n) (hst : (st.map fun v => v.category).sum ≤ 8) (hD : d + 1 ≤ zbD B) (hc : ce ≤ B.2.2.1 ∧ sl ≤ B.2.2.2.1) (k : Z B (pc + 3) lv (.int r :: st) (hp m1) ce sl) : Z B pc lv st0 (hp m) ce sl := by
  subst hs0
  exact z_callV av hw hE hci hd (hp_get hs) hn hst hD hc.1 hc.2 (fun o h1 hq => yki hq k)
theorem y_V0 {Mj : zM} {d idx n q ci N : Nat} {T : u_T} {t : List (Option Nat)} {st0 : List Value} {m1 : zmem} (av : List Value) (st : List Value) (hw : zCallV (zy (zbM B)).cls idx Mj n) (hE : E0 Mj d (.ref q :: av) m m1) (hci : vwCl[ci]? = some ((zy Mj).cls, T, N)) (hs : zshape[q]? = some (.inr (ci, t))) (hd : decode (zbc B) pc = .ok (.invokevirtual idx, 3)) (hs0 : st0 = av.reverse ++ .ref q :: st) (hn : av.length = n) (hst : (st.map fun v => v.category).sum ≤ 8) (hD : d + 1 ≤ zbD B) (hc : ce ≤ B.2.2.1 ∧ sl ≤ B.2.2.2.1) (k : Z B (pc + 3) lv st (hp m1) ce sl) : Z B pc lv st0 (hp m) ce sl := by
  subst hs0
  exact z_callV av hw hE hci hd (hp_get hs) hn hst hD hc.1 hc.2 (fun o h1 hq => yk0 hq k)
theorem y_Vl {Mj : zM} {d idx n q ci N : Nat} {T : u_T} {t : List (Option Nat)} {st0 : List Value} {r : Int64} {m1 : zmem} (av : List Value) (st : List Value) (hw : zCallV (zy (zbM B)).cls idx Mj n) (hE : El Mj d (.ref q :: av) m r m1) (hci : vwCl[ci]? = some ((zy Mj).cls, T, N)) (hs : zshape[q]? = some (.inr (ci, t))) (hd : decode (zbc B) pc = .ok (.invokevirtual idx, 3)) (hs0 : st0 = av.reverse ++ .ref q :: st) (hn : av.length = n) (hst : (st.map fun v => v.category).sum ≤ 8) (hD : d + 1 ≤ zbD B) (hc : ce ≤ B.2.2.1 ∧ sl ≤ B.2.2.2.1) (k : Z B (pc + 3) lv (.long r :: st) (hp m1) ce sl) : Z B pc lv st0 (hp m) ce sl := by
  subst hs0
  exact z_callV av hw hE hci hd (hp_get hs) hn hst hD hc.1 hc.2 (fun o h1 hq => ykl hq k)
theorem y_mem {m1 : zmem} (h : m = m1) (k : Z B pc lv st (hp m1) ce sl) : Z B pc lv st (hp m) ce sl := by subst h; exact k
end ZY
section ZYR
variable {M : zM} {D pc : Nat} {lv : zL} {m m1 : zmem}
theorem y_iret {v r : Int32} (hd : decode (zcc M) pc = .ok (.ireturn, 1)) (hr : zrt M = some .int) (hv : v = r) (hm : m = m1) : Z (zMB (Qi r m1) D M) pc lv [.int v] (hp m) 0 0 := by
  subst hv; subst hm
  exact z_iret hd hr (Nat.le_refl 0) (Nat.le_refl 0) ⟨rfl, rfl⟩
theorem y_zret {v r : Int32} (hd : decode (zcc M) pc = .ok (.ireturn, 1)) (hr : zrt M = some .boolean) (h01 : v = 0 ∨ v = 1) (hv : v = r) (hm : m = m1) : Z (zMB (Qi r m1) D M) pc lv [.int v] (hp m) 0 0 := by
  subst hv; subst hm
  exact z_zret hd hr (by rcases h01 with rfl | rfl <;> rfl) (Nat.le_refl 0) (Nat.le_refl 0) ⟨rfl, rfl⟩
theorem y_lret {v r : Int64} (hd : decode (zcc M) pc = .ok (.lreturn, 1)) (hr : zrt M = some .long) (hv : v = r) (hm : m = m1) : Z (zMB (Ql r m1) D M) pc lv [.long v] (hp m) 0 0 := by
  subst hv; subst hm
  exact z_lret hd hr (Nat.le_refl 0) (Nat.le_refl 0) ⟨rfl, rfl⟩
theorem y_vret (hd : decode (zcc M) pc = .ok (.return_, 1)) (hr : zrt M = none) (hm : m = m1) : Z (zMB (Q0 m1) D M) pc lv [] (hp m) 0 0 := by
  subst hm
  exact z_vret hd hr (Nat.le_refl 0) (Nat.le_refl 0) ⟨rfl, rfl⟩
end ZYR
end
section
/-! leaves of the class: rows and sets -/
def aat (n : Nat) (f : Nat → Int32) (i : Int32) : Int32 := if i < 0 then 0 else if Int32.ofNat n ≤ i then 0 else f i.toNatClampNeg
def aput (m : zmem) (q n : Nat) (i v : Int32) : zmem := if i < 0 then m else if Int32.ofNat n ≤ i then m else mset m q i.toNatClampNeg v
def sbit (k : Int32) : Int32 := if k < 0 then 0 else if 31 ≤ k then 0 else 1 <<< (k &&& 31)
def shas (s k : Int32) : Int32 := if k < 0 then 0 else if 31 ≤ k then 0 else if ¬ (s >>> (k &&& 31)) &&& 1 = 1 then 0 else 1
theorem vin_of {i : Int32} {n : Nat} (hn : n < 2147483648) (h1 : ¬ i < 0) (h2 : ¬ Int32.ofNat n ≤ i) : vp_in i n := by
  intro h
  rcases h with h | h
  · exact h1 h
  · apply h2
    rw [Int32.le_iff_toInt_le]
    have e : (Int32.ofNat n).toInt = n := by
      rw [Int32.toInt_ofNat_of_lt]
      omega
    rw [e]
    have h3 : (0 : Int) ≤ i.toInt := by
      have := Int32.not_lt.mp h1
      have h4 := Int32.le_iff_toInt_le.mp this
      simpa using h4
    have h5 : i.toNatClampNeg = i.toInt.toNat := rfl
    omega
set_option maxRecDepth 100000 in
set_option maxHeartbeats 4000000 in
theorem c_at {m : zmem} {q n : Nat} {i : Int32} (hq : zshape[q]? = some (zarr n)) (hn : n < 2147483648) : Ei MX6_at 0 [.ref q, .int i] m (aat n (m q) i) (m) := by
  refine Ei.of (by decide) (Nat.le_of_ble_eq_true rfl) ?_
  show Z _ 0 [(0, .ref q), (1, .int i)] _ _ _ _
  refine z_aload_n 0 dX6_at_0 rfl rfl ?_
  refine z_ifnull dX6_at_1 ?_
  refine z_iload_n 1 dX6_at_4 rfl rfl ?_
  refine z_if_lt 20 dX6_at_5 (by decide) (fun c_1 => ?_) (fun c_1 => ?_)
  · refine z_iconst 0 dX6_at_20 (by decide) ?_
    exact y_iret dX6_at_21 rfl (by simp [aat, c_1]) rfl
  · refine z_iload_n 1 dX6_at_8 rfl rfl ?_
    refine z_aload_n 0 dX6_at_9 rfl rfl ?_
    refine y_alen _ dX6_at_10 hq rfl ?_
    refine z_icmp_ge 20 dX6_at_11 (by decide) (fun c_2 => ?_) (fun c_2 => ?_)
    · refine z_iconst 0 dX6_at_20 (by decide) ?_
      exact y_iret dX6_at_21 rfl (by simp [aat, c_1, c_2]) rfl
    · refine z_aload_n 0 dX6_at_14 rfl rfl ?_
      refine z_iload_n 1 dX6_at_15 rfl rfl ?_
      refine y_iald dX6_at_16 hq (vin_of hn c_1 c_2) ?_
      refine z_goto 21 dX6_at_17 (by decide) ?_
      exact y_iret dX6_at_21 rfl (by simp [aat, c_1, c_2]) rfl
set_option maxRecDepth 100000 in
set_option maxHeartbeats 4000000 in
theorem c_put {m : zmem} {q n : Nat} {i v : Int32} (hq : zshape[q]? = some (zarr n)) (hn : n < 2147483648) : E0 MX6_put 0 [.ref q, .int i, .int v] m (aput m q n i v) := by
  refine E0.of (by decide) (Nat.le_of_ble_eq_true rfl) ?_
  show Z _ 0 [(0, .ref q), (1, .int i), (2, .int v)] _ _ _ _
  refine z_aload_n 0 dX6_put_0 rfl rfl ?_
  refine z_ifnull dX6_put_1 ?_
  refine z_iload_n 1 dX6_put_4 rfl rfl ?_
  refine z_if_lt 18 dX6_put_5 (by decide) (fun c_1 => ?_) (fun c_1 => ?_)
  · exact y_vret dX6_put_18 rfl (by simp [aput, c_1])
  · refine z_iload_n 1 dX6_put_8 rfl rfl ?_
    refine z_aload_n 0 dX6_put_9 rfl rfl ?_
    refine y_alen _ dX6_put_10 hq rfl ?_
    refine z_icmp_ge 18 dX6_put_11 (by decide) (fun c_2 => ?_) (fun c_2 => ?_)
    · exact y_vret dX6_put_18 rfl (by simp [aput, c_1, c_2])
    · refine z_aload_n 0 dX6_put_14 rfl rfl ?_
      refine z_iload_n 1 dX6_put_15 rfl rfl ?_
      refine z_iload_n 2 dX6_put_16 rfl rfl ?_
      refine y_iast dX6_put_17 hq (vin_of hn c_1 c_2) ?_
      exact y_vret dX6_put_18 rfl (by simp [aput, c_1, c_2])
set_option maxRecDepth 100000 in
set_option maxHeartbeats 4000000 in
theorem c_bit {m : zmem} {k : Int32} : Ei MX6_bit 0 [.int k] m (sbit k) (m) := by
  refine Ei.of (by decide) (Nat.le_of_ble_eq_true rfl) ?_
  show Z _ 0 [(0, .int k)] _ _ _ _
  refine z_iload_n 0 dX6_bit_0 rfl rfl ?_
  refine z_if_lt 16 dX6_bit_1 (by decide) (fun c_1 => ?_) (fun c_1 => ?_)
  · refine z_iconst 0 dX6_bit_16 (by decide) ?_
    exact y_iret dX6_bit_17 rfl (by simp [sbit, c_1]) rfl
  · refine z_iload_n 0 dX6_bit_4 rfl rfl ?_
    refine z_bipush 31 dX6_bit_5 (by decide) ?_
    refine z_icmp_ge 16 dX6_bit_7 (by decide) (fun c_2 => ?_) (fun c_2 => ?_)
    · refine z_iconst 0 dX6_bit_16 (by decide) ?_
      exact y_iret dX6_bit_17 rfl (by simp [sbit, c_1, c_2]) rfl
    · refine z_iconst 1 dX6_bit_10 (by decide) ?_
      refine z_iload_n 0 dX6_bit_11 rfl rfl ?_
      refine z_ishl dX6_bit_12 ?_
      refine z_goto 17 dX6_bit_13 (by decide) ?_
      exact y_iret dX6_bit_17 rfl (by simp [sbit, c_1, c_2]) rfl
set_option maxRecDepth 100000 in
set_option maxHeartbeats 4000000 in
theorem c_has {m : zmem} {s k : Int32} : Ei MX6_has 0 [.int s, .int k] m (shas s k) (m) := by
  refine Ei.of (by decide) (Nat.le_of_ble_eq_true rfl) ?_
  show Z _ 0 [(0, .int s), (1, .int k)] _ _ _ _
  refine z_iload_n 1 dX6_has_0 rfl rfl ?_
  refine z_if_lt 23 dX6_has_1 (by decide) (fun c_1 => ?_) (fun c_1 => ?_)
  · refine z_iconst 0 dX6_has_23 (by decide) ?_
    exact y_zret dX6_has_24 rfl (by simp) (by simp [shas, c_1]) rfl
  · refine z_iload_n 1 dX6_has_4 rfl rfl ?_
    refine z_bipush 31 dX6_has_5 (by decide) ?_
    refine z_icmp_ge 23 dX6_has_7 (by decide) (fun c_2 => ?_) (fun c_2 => ?_)
    · refine z_iconst 0 dX6_has_23 (by decide) ?_
      exact y_zret dX6_has_24 rfl (by simp) (by simp [shas, c_1, c_2]) rfl
    · refine z_iload_n 0 dX6_has_10 rfl rfl ?_
      refine z_iload_n 1 dX6_has_11 rfl rfl ?_
      refine z_ishr dX6_has_12 ?_
      refine z_iconst 1 dX6_has_13 (by decide) ?_
      refine z_iand dX6_has_14 ?_
      refine z_iconst 1 dX6_has_15 (by decide) ?_
      refine z_icmp_ne 23 dX6_has_16 (by decide) (fun c_3 => ?_) (fun c_3 => ?_)
      · refine z_iconst 0 dX6_has_23 (by decide) ?_
        exact y_zret dX6_has_24 rfl (by simp) (by simp [shas, c_1, c_2, c_3]) rfl
      · refine z_iconst 1 dX6_has_19 (by decide) ?_
        refine z_goto 24 dX6_has_20 (by decide) ?_
        exact y_zret dX6_has_24 rfl (by simp) (by simp [shas, c_1, c_2, c_3]) rfl
set_option maxRecDepth 100000 in
set_option maxHeartbeats 4000000 in
theorem c_allBelow {m : zmem} {k : Int32} : Ei MX6_allBelow 1 [.int k] m (sbit k - 1) (m) := by
  refine Ei.of (by decide) (Nat.le_of_ble_eq_true rfl) ?_
  show Z _ 0 [(0, .int k)] _ _ _ _
  refine z_iload_n 0 dX6_allBelow_0 rfl rfl ?_
  refine y_Si [_] _ kX6_199 c_bit dX6_allBelow_1 rfl rfl (Nat.le_of_ble_eq_true rfl) (Nat.le_of_ble_eq_true rfl) ⟨Nat.zero_le _, Nat.zero_le _⟩ ?_
  refine z_iconst 1 dX6_allBelow_4 (by decide) ?_
  refine z_isub dX6_allBelow_5 ?_
  exact y_iret dX6_allBelow_6 rfl rfl rfl
end
section
/-! counters -/
theorem nat_toInt {k : Nat} (h : k < 2147483648) : (Int32.ofNat k).toInt = k := Int32.toInt_ofNat_of_lt h
theorem nat_le {a b : Nat} (ha : a < 2147483648) (hb : b < 2147483648) : (Int32.ofNat a ≤ Int32.ofNat b) ↔ a ≤ b := by
  rw [Int32.le_iff_toInt_le, nat_toInt ha, nat_toInt hb]
  omega
theorem nat_succ (k : Nat) : Int32.ofNat k + 1 = Int32.ofNat (k + 1) := by
  rw [Int32.ofNat_add]
  rfl
/-- a counter that has come to its bound goes no further; one below goes on -/
theorem dz {b x : Int32} {N k : Nat} (hx : x = Int32.ofNat k) (hb : b = Int32.ofNat N) (h : N ≤ k) (hk : k < 2147483648) (c : ¬ b ≤ x) : False := by
  subst hx; subst hb
  exact c ((nat_le (by omega) hk).mpr h)
theorem ds {b x : Int32} {N k : Nat} (hx : x = Int32.ofNat k) (hb : b = Int32.ofNat N) (h : k < N) (hN : N < 2147483648) (c : b ≤ x) : False := by
  subst hx; subst hb
  have := (nat_le hN (by omega)).mp c
  omega
theorem z_itop {B : zB} {pc : Nat} {lv : zL} {st : List Value} {h : zH} {ce sl : Nat} {x y : Int32} (e : x = y) (k : Z B pc lv (.int y :: st) h ce sl) : Z B pc lv (.int x :: st) h ce sl := by subst e; exact k
/-- the row q (of length nq) laid over the row p (of length np), eight places -/
def scopy (q nq p np : Nat) : Nat → Nat → zmem → zmem
  | 0, _, m => m
  | n + 1, k, m => scopy q nq p np n (k + 1) (aput m p np (Int32.ofNat k) (aat nq (m q) (Int32.ofNat k)))
set_option maxRecDepth 100000 in
set_option maxHeartbeats 4000000 in
theorem c_copyRow {m : zmem} {q nq p np : Nat} (hq : zshape[q]? = some (zarr nq)) (hnq : nq < 2147483648) (hp0 : zshape[p]? = some (zarr np)) (hnp : np < 2147483648) : E0 MX6_copyRow 1 [.ref q, .ref p] m (scopy q nq p np 8 0 m) := by
  refine E0.of (by decide) (Nat.le_of_ble_eq_true rfl) ?_
  show Z _ 0 [(0, .ref q), (1, .ref p)] _ _ _ _
  refine z_iconst 0 dX6_copyRow_0 (by decide) ?_
  refine z_istore_n (lv' := [(2, .int 0), (0, .ref q), (1, .ref p)]) dX6_copyRow_1 rfl (Nat.le_of_ble_eq_true rfl) rfl ?_
  have loop2 : ∀ (n : Nat) (k : Nat) (x : Int32) (mm : zmem), k + n = 8 → x = Int32.ofNat k → scopy q nq p np 8 0 m = scopy q nq p np n k mm → Z (zMB (Q0 (scopy q nq p np 8 0 m)) 1 MX6_copyRow) 2 [(0, .ref q), (1, .ref p), (2, .int x)] [] (hp mm) 0 0 := by
    intro n
    induction n with
    | zero =>
      intro k x mm hk hx hr
      refine z_iload_n 2 dX6_copyRow_2 rfl rfl ?_
      refine z_bipush 8 dX6_copyRow_3 (by decide) ?_
      refine z_icmp_ge 24 dX6_copyRow_5 (by decide) (fun c_1 => ?_) (fun c_1 => ?_)
      · exact y_vret dX6_copyRow_24 rfl hr.symm
      · exact (dz hx (b := 8) (N := 8) rfl (by omega) (by omega) c_1).elim
    | succ n ih2 =>
      intro k x mm hk hx hr
      refine z_iload_n 2 dX6_copyRow_2 rfl rfl ?_
      refine z_bipush 8 dX6_copyRow_3 (by decide) ?_
      refine z_icmp_ge 24 dX6_copyRow_5 (by decide) (fun c_2 => ?_) (fun c_2 => ?_)
      · exact (ds hx (b := 8) (N := 8) rfl (by omega) (by omega) c_2).elim
      · refine z_aload_n 1 dX6_copyRow_8 rfl rfl ?_
        refine z_iload_n 2 dX6_copyRow_9 rfl rfl ?_
        refine z_aload_n 0 dX6_copyRow_10 rfl rfl ?_
        refine z_iload_n 2 dX6_copyRow_11 rfl rfl ?_
        refine y_Si [_, _] _ kX6_142 (c_at hq hnq) dX6_copyRow_12 rfl rfl (Nat.le_of_ble_eq_true rfl) (Nat.le_of_ble_eq_true rfl) ⟨Nat.zero_le _, Nat.zero_le _⟩ ?_
        refine y_S0 [_, _, _] _ kX6_188 (c_put hp0 hnp) dX6_copyRow_15 rfl rfl (Nat.le_of_ble_eq_true rfl) (Nat.le_of_ble_eq_true rfl) ⟨Nat.zero_le _, Nat.zero_le _⟩ ?_
        obtain ⟨v_3, e_3⟩ : ∃ y : Int32, y = x + 1 := ⟨_, rfl⟩
        refine z_iinc (lv' := [(2, .int v_3), (0, .ref q), (1, .ref p)]) 2 v_3 dX6_copyRow_18 rfl (by rw [e_3]; rfl) (Nat.le_of_ble_eq_true rfl) rfl ?_
        refine z_goto 2 dX6_copyRow_21 (by decide) ?_
        refine z_sub [1,2,0] rfl ?_
        exact ih2 (k + 1) _ _ (by omega) (by rw [e_3, hx]; exact nat_succ k) (hr.trans (by rw [hx]; rfl))
  refine z_sub [1,2,0] rfl ?_
  exact loop2 8 0 _ _ rfl rfl rfl
end
