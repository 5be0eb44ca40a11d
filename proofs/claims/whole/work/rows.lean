section
-- ===== PART A: goes FIRST, ahead of the names: the tables' words, and 'selects' of the private methods out of them =====
/-- a private method of a class that the tables say can be made, by its rows of tables_1 -/
def lw_okq (q : MethodName × Nat) : Prop := (q.1.cls ≠ "java/lang/invoke/MethodHandle" ∧ q.1.cls ≠ "java/lang/invoke/VarHandle") ∧ Cond.instantiable q.1.cls q.2 ∈ tables_1 ∧ Cond.privateMethod q.1 ∈ tables_1 ∧ Cond.instanceMethod q.1 ∈ tables_1
theorem lw_p0 : lw_okq (⟨"LoftGraves$Custom", "add", "(I)V"⟩, 2) := ⟨⟨by decide +kernel, by decide +kernel⟩, List.mem_of_getElem? (i := 52) (by decide +kernel), List.mem_of_getElem? (i := 202) (by decide +kernel), List.mem_of_getElem? (i := 203) (by decide +kernel)⟩
theorem lw_p1 : lw_okq (⟨"LoftGraves$Parish", "settle", "()V"⟩, 16) := ⟨⟨by decide +kernel, by decide +kernel⟩, List.mem_of_getElem? (i := 69) (by decide +kernel), List.mem_of_getElem? (i := 209) (by decide +kernel), List.mem_of_getElem? (i := 210) (by decide +kernel)⟩
theorem lw_p2 : lw_okq (⟨"LoftGraves$Text", "append", "(I)V"⟩, 5) := ⟨⟨by decide +kernel, by decide +kernel⟩, List.mem_of_getElem? (i := 24) (by decide +kernel), List.mem_of_getElem? (i := 263) (by decide +kernel), List.mem_of_getElem? (i := 264) (by decide +kernel)⟩
theorem lw_p3 : lw_okq (⟨"LoftGraves$Parish", "readFrom", "(LLoftGraves$Text;)V"⟩, 16) := ⟨⟨by decide +kernel, by decide +kernel⟩, List.mem_of_getElem? (i := 69) (by decide +kernel), List.mem_of_getElem? (i := 271) (by decide +kernel), List.mem_of_getElem? (i := 272) (by decide +kernel)⟩
theorem lw_p4 : lw_okq (⟨"LoftGraves$Text", "begin", "()V"⟩, 5) := ⟨⟨by decide +kernel, by decide +kernel⟩, List.mem_of_getElem? (i := 24) (by decide +kernel), List.mem_of_getElem? (i := 275) (by decide +kernel), List.mem_of_getElem? (i := 276) (by decide +kernel)⟩
theorem lw_p5 : lw_okq (⟨"LoftGraves$Text", "goesOn", "()Z"⟩, 5) := ⟨⟨by decide +kernel, by decide +kernel⟩, List.mem_of_getElem? (i := 24) (by decide +kernel), List.mem_of_getElem? (i := 279) (by decide +kernel), List.mem_of_getElem? (i := 280) (by decide +kernel)⟩
theorem lw_p6 : lw_okq (⟨"LoftGraves$Text", "skipBlanks", "()V"⟩, 5) := ⟨⟨by decide +kernel, by decide +kernel⟩, List.mem_of_getElem? (i := 24) (by decide +kernel), List.mem_of_getElem? (i := 283) (by decide +kernel), List.mem_of_getElem? (i := 284) (by decide +kernel)⟩
theorem lw_p7 : lw_okq (⟨"LoftGraves$Text", "byteAt", "(I)I"⟩, 5) := ⟨⟨by decide +kernel, by decide +kernel⟩, List.mem_of_getElem? (i := 24) (by decide +kernel), List.mem_of_getElem? (i := 287) (by decide +kernel), List.mem_of_getElem? (i := 288) (by decide +kernel)⟩
theorem lw_p8 : lw_okq (⟨"LoftGraves$Parish", "readClause", "(LLoftGraves$Text;)V"⟩, 16) := ⟨⟨by decide +kernel, by decide +kernel⟩, List.mem_of_getElem? (i := 69) (by decide +kernel), List.mem_of_getElem? (i := 291) (by decide +kernel), List.mem_of_getElem? (i := 292) (by decide +kernel)⟩
theorem lw_p9 : lw_okq (⟨"LoftGraves$Text", "takeWord", "(Ljava/lang/String;)Z"⟩, 5) := ⟨⟨by decide +kernel, by decide +kernel⟩, List.mem_of_getElem? (i := 24) (by decide +kernel), List.mem_of_getElem? (i := 296) (by decide +kernel), List.mem_of_getElem? (i := 297) (by decide +kernel)⟩
theorem lw_p10 : lw_okq (⟨"LoftGraves$Parish", "readSun", "(LLoftGraves$Text;I)V"⟩, 16) := ⟨⟨by decide +kernel, by decide +kernel⟩, List.mem_of_getElem? (i := 69) (by decide +kernel), List.mem_of_getElem? (i := 348) (by decide +kernel), List.mem_of_getElem? (i := 349) (by decide +kernel)⟩
theorem lw_p11 : lw_okq (⟨"LoftGraves$Text", "blame", "(II)V"⟩, 5) := ⟨⟨by decide +kernel, by decide +kernel⟩, List.mem_of_getElem? (i := 24) (by decide +kernel), List.mem_of_getElem? (i := 352) (by decide +kernel), List.mem_of_getElem? (i := 353) (by decide +kernel)⟩
theorem lw_p12 : lw_okq (⟨"LoftGraves$Text", "takeNumber", "(II)I"⟩, 5) := ⟨⟨by decide +kernel, by decide +kernel⟩, List.mem_of_getElem? (i := 24) (by decide +kernel), List.mem_of_getElem? (i := 356) (by decide +kernel), List.mem_of_getElem? (i := 357) (by decide +kernel)⟩
theorem lw_p13 : lw_okq (⟨"LoftGraves$Text", "takeStop", "()V"⟩, 5) := ⟨⟨by decide +kernel, by decide +kernel⟩, List.mem_of_getElem? (i := 24) (by decide +kernel), List.mem_of_getElem? (i := 361) (by decide +kernel), List.mem_of_getElem? (i := 362) (by decide +kernel)⟩
theorem lw_p14 : lw_okq (⟨"LoftGraves$Parish", "readYard", "(LLoftGraves$Text;I)V"⟩, 16) := ⟨⟨by decide +kernel, by decide +kernel⟩, List.mem_of_getElem? (i := 69) (by decide +kernel), List.mem_of_getElem? (i := 366) (by decide +kernel), List.mem_of_getElem? (i := 367) (by decide +kernel)⟩
theorem lw_p15 : lw_okq (⟨"LoftGraves$Parish", "readDead", "(LLoftGraves$Text;I)V"⟩, 16) := ⟨⟨by decide +kernel, by decide +kernel⟩, List.mem_of_getElem? (i := 69) (by decide +kernel), List.mem_of_getElem? (i := 371) (by decide +kernel), List.mem_of_getElem? (i := 372) (by decide +kernel)⟩
def lw_privs_1 : List (MethodName × Nat) := [(⟨"LoftGraves$Custom", "add", "(I)V"⟩, 2), (⟨"LoftGraves$Parish", "settle", "()V"⟩, 16), (⟨"LoftGraves$Text", "append", "(I)V"⟩, 5), (⟨"LoftGraves$Parish", "readFrom", "(LLoftGraves$Text;)V"⟩, 16), (⟨"LoftGraves$Text", "begin", "()V"⟩, 5), (⟨"LoftGraves$Text", "goesOn", "()Z"⟩, 5), (⟨"LoftGraves$Text", "skipBlanks", "()V"⟩, 5), (⟨"LoftGraves$Text", "byteAt", "(I)I"⟩, 5), (⟨"LoftGraves$Parish", "readClause", "(LLoftGraves$Text;)V"⟩, 16), (⟨"LoftGraves$Text", "takeWord", "(Ljava/lang/String;)Z"⟩, 5), (⟨"LoftGraves$Parish", "readSun", "(LLoftGraves$Text;I)V"⟩, 16), (⟨"LoftGraves$Text", "blame", "(II)V"⟩, 5), (⟨"LoftGraves$Text", "takeNumber", "(II)I"⟩, 5), (⟨"LoftGraves$Text", "takeStop", "()V"⟩, 5), (⟨"LoftGraves$Parish", "readYard", "(LLoftGraves$Text;I)V"⟩, 16), (⟨"LoftGraves$Parish", "readDead", "(LLoftGraves$Text;I)V"⟩, 16)]
theorem lw_r1 : ∀ q ∈ lw_privs_1, lw_okq q := List.forall_mem_cons.mpr ⟨lw_p0, List.forall_mem_cons.mpr ⟨lw_p1, List.forall_mem_cons.mpr ⟨lw_p2, List.forall_mem_cons.mpr ⟨lw_p3, List.forall_mem_cons.mpr ⟨lw_p4, List.forall_mem_cons.mpr ⟨lw_p5, List.forall_mem_cons.mpr ⟨lw_p6, List.forall_mem_cons.mpr ⟨lw_p7, List.forall_mem_cons.mpr ⟨lw_p8, List.forall_mem_cons.mpr ⟨lw_p9, List.forall_mem_cons.mpr ⟨lw_p10, List.forall_mem_cons.mpr ⟨lw_p11, List.forall_mem_cons.mpr ⟨lw_p12, List.forall_mem_cons.mpr ⟨lw_p13, List.forall_mem_cons.mpr ⟨lw_p14, List.forall_mem_cons.mpr ⟨lw_p15, fun _ h => absurd h List.not_mem_nil⟩⟩⟩⟩⟩⟩⟩⟩⟩⟩⟩⟩⟩⟩⟩⟩
theorem lw_p16 : lw_okq (⟨"LoftGraves$Parish", "copyFrom", "(LLoftGraves$Parish;)V"⟩, 16) := ⟨⟨by decide +kernel, by decide +kernel⟩, List.mem_of_getElem? (i := 69) (by decide +kernel), List.mem_of_getElem? (i := 375) (by decide +kernel), List.mem_of_getElem? (i := 376) (by decide +kernel)⟩
theorem lw_p17 : lw_okq (⟨"LoftGraves$Custom", "readFrom", "(LLoftGraves$Text;)V"⟩, 2) := ⟨⟨by decide +kernel, by decide +kernel⟩, List.mem_of_getElem? (i := 52) (by decide +kernel), List.mem_of_getElem? (i := 390) (by decide +kernel), List.mem_of_getElem? (i := 391) (by decide +kernel)⟩
theorem lw_p18 : lw_okq (⟨"LoftGraves$Custom", "readClause", "(LLoftGraves$Text;)V"⟩, 2) := ⟨⟨by decide +kernel, by decide +kernel⟩, List.mem_of_getElem? (i := 52) (by decide +kernel), List.mem_of_getElem? (i := 396) (by decide +kernel), List.mem_of_getElem? (i := 397) (by decide +kernel)⟩
theorem lw_p19 : lw_okq (⟨"LoftGraves$Custom", "counts", "(I)Z"⟩, 2) := ⟨⟨by decide +kernel, by decide +kernel⟩, List.mem_of_getElem? (i := 52) (by decide +kernel), List.mem_of_getElem? (i := 406) (by decide +kernel), List.mem_of_getElem? (i := 407) (by decide +kernel)⟩
theorem lw_p20 : lw_okq (⟨"LoftGraves$Custom", "copyFrom", "(LLoftGraves$Custom;)V"⟩, 2) := ⟨⟨by decide +kernel, by decide +kernel⟩, List.mem_of_getElem? (i := 52) (by decide +kernel), List.mem_of_getElem? (i := 413) (by decide +kernel), List.mem_of_getElem? (i := 414) (by decide +kernel)⟩
theorem lw_p21 : lw_okq (⟨"LoftGraves$Parish", "waiting", "()I"⟩, 16) := ⟨⟨by decide +kernel, by decide +kernel⟩, List.mem_of_getElem? (i := 69) (by decide +kernel), List.mem_of_getElem? (i := 426) (by decide +kernel), List.mem_of_getElem? (i := 427) (by decide +kernel)⟩
theorem lw_p22 : lw_okq (⟨"LoftGraves$Parish", "laid", "()I"⟩, 16) := ⟨⟨by decide +kernel, by decide +kernel⟩, List.mem_of_getElem? (i := 69) (by decide +kernel), List.mem_of_getElem? (i := 430) (by decide +kernel), List.mem_of_getElem? (i := 431) (by decide +kernel)⟩
theorem lw_p23 : lw_okq (⟨"LoftGraves$Parish", "hasYard", "(I)Z"⟩, 16) := ⟨⟨by decide +kernel, by decide +kernel⟩, List.mem_of_getElem? (i := 69) (by decide +kernel), List.mem_of_getElem? (i := 441) (by decide +kernel), List.mem_of_getElem? (i := 442) (by decide +kernel)⟩
theorem lw_p24 : lw_okq (⟨"LoftGraves$Parish", "whoLiesIn", "(I)I"⟩, 16) := ⟨⟨by decide +kernel, by decide +kernel⟩, List.mem_of_getElem? (i := 69) (by decide +kernel), List.mem_of_getElem? (i := 446) (by decide +kernel), List.mem_of_getElem? (i := 447) (by decide +kernel)⟩
theorem lw_p25 : lw_okq (⟨"LoftGraves$Parish", "hasDead", "(I)Z"⟩, 16) := ⟨⟨by decide +kernel, by decide +kernel⟩, List.mem_of_getElem? (i := 69) (by decide +kernel), List.mem_of_getElem? (i := 454) (by decide +kernel), List.mem_of_getElem? (i := 455) (by decide +kernel)⟩
theorem lw_p26 : lw_okq (⟨"LoftGraves$Parish", "placeAmong", "(LLoftGraves$Custom;II)I"⟩, 16) := ⟨⟨by decide +kernel, by decide +kernel⟩, List.mem_of_getElem? (i := 69) (by decide +kernel), List.mem_of_getElem? (i := 465) (by decide +kernel), List.mem_of_getElem? (i := 466) (by decide +kernel)⟩
theorem lw_p27 : lw_okq (⟨"LoftGraves$Parish", "urgentClaim", "(LLoftGraves$Custom;I)J"⟩, 16) := ⟨⟨by decide +kernel, by decide +kernel⟩, List.mem_of_getElem? (i := 69) (by decide +kernel), List.mem_of_getElem? (i := 469) (by decide +kernel), List.mem_of_getElem? (i := 470) (by decide +kernel)⟩
theorem lw_p28 : lw_okq (⟨"LoftGraves$Parish", "claim", "(LLoftGraves$Custom;I)J"⟩, 16) := ⟨⟨by decide +kernel, by decide +kernel⟩, List.mem_of_getElem? (i := 69) (by decide +kernel), List.mem_of_getElem? (i := 473) (by decide +kernel), List.mem_of_getElem? (i := 474) (by decide +kernel)⟩
theorem lw_p29 : lw_okq (⟨"LoftGraves$Parish", "worth", "(II)I"⟩, 16) := ⟨⟨by decide +kernel, by decide +kernel⟩, List.mem_of_getElem? (i := 69) (by decide +kernel), List.mem_of_getElem? (i := 478) (by decide +kernel), List.mem_of_getElem? (i := 479) (by decide +kernel)⟩
theorem lw_p30 : lw_okq (⟨"LoftGraves$Parish", "passDay", "(I)V"⟩, 16) := ⟨⟨by decide +kernel, by decide +kernel⟩, List.mem_of_getElem? (i := 69) (by decide +kernel), List.mem_of_getElem? (i := 506) (by decide +kernel), List.mem_of_getElem? (i := 507) (by decide +kernel)⟩
theorem lw_p31 : lw_okq (⟨"LoftGraves$Parish", "taken", "()I"⟩, 16) := ⟨⟨by decide +kernel, by decide +kernel⟩, List.mem_of_getElem? (i := 69) (by decide +kernel), List.mem_of_getElem? (i := 510) (by decide +kernel), List.mem_of_getElem? (i := 511) (by decide +kernel)⟩
def lw_privs_2 : List (MethodName × Nat) := [(⟨"LoftGraves$Parish", "copyFrom", "(LLoftGraves$Parish;)V"⟩, 16), (⟨"LoftGraves$Custom", "readFrom", "(LLoftGraves$Text;)V"⟩, 2), (⟨"LoftGraves$Custom", "readClause", "(LLoftGraves$Text;)V"⟩, 2), (⟨"LoftGraves$Custom", "counts", "(I)Z"⟩, 2), (⟨"LoftGraves$Custom", "copyFrom", "(LLoftGraves$Custom;)V"⟩, 2), (⟨"LoftGraves$Parish", "waiting", "()I"⟩, 16), (⟨"LoftGraves$Parish", "laid", "()I"⟩, 16), (⟨"LoftGraves$Parish", "hasYard", "(I)Z"⟩, 16), (⟨"LoftGraves$Parish", "whoLiesIn", "(I)I"⟩, 16), (⟨"LoftGraves$Parish", "hasDead", "(I)Z"⟩, 16), (⟨"LoftGraves$Parish", "placeAmong", "(LLoftGraves$Custom;II)I"⟩, 16), (⟨"LoftGraves$Parish", "urgentClaim", "(LLoftGraves$Custom;I)J"⟩, 16), (⟨"LoftGraves$Parish", "claim", "(LLoftGraves$Custom;I)J"⟩, 16), (⟨"LoftGraves$Parish", "worth", "(II)I"⟩, 16), (⟨"LoftGraves$Parish", "passDay", "(I)V"⟩, 16), (⟨"LoftGraves$Parish", "taken", "()I"⟩, 16)]
theorem lw_r2 : ∀ q ∈ lw_privs_2, lw_okq q := List.forall_mem_cons.mpr ⟨lw_p16, List.forall_mem_cons.mpr ⟨lw_p17, List.forall_mem_cons.mpr ⟨lw_p18, List.forall_mem_cons.mpr ⟨lw_p19, List.forall_mem_cons.mpr ⟨lw_p20, List.forall_mem_cons.mpr ⟨lw_p21, List.forall_mem_cons.mpr ⟨lw_p22, List.forall_mem_cons.mpr ⟨lw_p23, List.forall_mem_cons.mpr ⟨lw_p24, List.forall_mem_cons.mpr ⟨lw_p25, List.forall_mem_cons.mpr ⟨lw_p26, List.forall_mem_cons.mpr ⟨lw_p27, List.forall_mem_cons.mpr ⟨lw_p28, List.forall_mem_cons.mpr ⟨lw_p29, List.forall_mem_cons.mpr ⟨lw_p30, List.forall_mem_cons.mpr ⟨lw_p31, fun _ h => absurd h List.not_mem_nil⟩⟩⟩⟩⟩⟩⟩⟩⟩⟩⟩⟩⟩⟩⟩⟩
theorem lw_p32 : lw_okq (⟨"LoftGraves$Parish", "thawOf", "(II)I"⟩, 16) := ⟨⟨by decide +kernel, by decide +kernel⟩, List.mem_of_getElem? (i := 69) (by decide +kernel), List.mem_of_getElem? (i := 514) (by decide +kernel), List.mem_of_getElem? (i := 515) (by decide +kernel)⟩
theorem lw_p33 : lw_okq (⟨"LoftGraves$Parish", "soft", "()I"⟩, 16) := ⟨⟨by decide +kernel, by decide +kernel⟩, List.mem_of_getElem? (i := 69) (by decide +kernel), List.mem_of_getElem? (i := 523) (by decide +kernel), List.mem_of_getElem? (i := 524) (by decide +kernel)⟩
theorem lw_p34 : lw_okq (⟨"LoftGraves$Parish", "passNight", "(I)V"⟩, 16) := ⟨⟨by decide +kernel, by decide +kernel⟩, List.mem_of_getElem? (i := 69) (by decide +kernel), List.mem_of_getElem? (i := 531) (by decide +kernel), List.mem_of_getElem? (i := 532) (by decide +kernel)⟩
theorem lw_p35 : lw_okq (⟨"LoftGraves$Parish", "draw", "(I)I"⟩, 16) := ⟨⟨by decide +kernel, by decide +kernel⟩, List.mem_of_getElem? (i := 69) (by decide +kernel), List.mem_of_getElem? (i := 535) (by decide +kernel), List.mem_of_getElem? (i := 536) (by decide +kernel)⟩
theorem lw_p36 : lw_okq (⟨"LoftGraves$Parish", "boardless", "()I"⟩, 16) := ⟨⟨by decide +kernel, by decide +kernel⟩, List.mem_of_getElem? (i := 69) (by decide +kernel), List.mem_of_getElem? (i := 543) (by decide +kernel), List.mem_of_getElem? (i := 544) (by decide +kernel)⟩
theorem lw_p37 : lw_okq (⟨"LoftGraves$Parish", "layDown", "(II)I"⟩, 16) := ⟨⟨by decide +kernel, by decide +kernel⟩, List.mem_of_getElem? (i := 69) (by decide +kernel), List.mem_of_getElem? (i := 552) (by decide +kernel), List.mem_of_getElem? (i := 553) (by decide +kernel)⟩
theorem lw_p38 : lw_okq (⟨"LoftGraves", "useSpades", "(I)V"⟩, 12) := ⟨⟨by decide +kernel, by decide +kernel⟩, List.mem_of_getElem? (i := 16) (by decide +kernel), List.mem_of_getElem? (i := 561) (by decide +kernel), List.mem_of_getElem? (i := 562) (by decide +kernel)⟩
theorem lw_p39 : lw_okq (⟨"LoftGraves$Parish", "firstAmong", "(LLoftGraves$Custom;I)I"⟩, 16) := ⟨⟨by decide +kernel, by decide +kernel⟩, List.mem_of_getElem? (i := 69) (by decide +kernel), List.mem_of_getElem? (i := 565) (by decide +kernel), List.mem_of_getElem? (i := 566) (by decide +kernel)⟩
theorem lw_p40 : lw_okq (⟨"LoftGraves$Parish", "softAndFree", "()I"⟩, 16) := ⟨⟨by decide +kernel, by decide +kernel⟩, List.mem_of_getElem? (i := 69) (by decide +kernel), List.mem_of_getElem? (i := 570) (by decide +kernel), List.mem_of_getElem? (i := 571) (by decide +kernel)⟩
theorem lw_p41 : lw_okq (⟨"LoftGraves$Plan", "begin", "(LLoftGraves$Parish;LLoftGraves$Custom;)V"⟩, 6) := ⟨⟨by decide +kernel, by decide +kernel⟩, List.mem_of_getElem? (i := 164) (by decide +kernel), List.mem_of_getElem? (i := 589) (by decide +kernel), List.mem_of_getElem? (i := 590) (by decide +kernel)⟩
theorem lw_p42 : lw_okq (⟨"LoftGraves$Plan", "whoOffends", "(I)I"⟩, 6) := ⟨⟨by decide +kernel, by decide +kernel⟩, List.mem_of_getElem? (i := 164) (by decide +kernel), List.mem_of_getElem? (i := 598) (by decide +kernel), List.mem_of_getElem? (i := 599) (by decide +kernel)⟩
theorem lw_p43 : lw_okq (⟨"LoftGraves$Plan", "offends", "(II)Z"⟩, 6) := ⟨⟨by decide +kernel, by decide +kernel⟩, List.mem_of_getElem? (i := 164) (by decide +kernel), List.mem_of_getElem? (i := 602) (by decide +kernel), List.mem_of_getElem? (i := 603) (by decide +kernel)⟩
theorem lw_p44 : lw_okq (⟨"LoftGraves$Plan", "quarrelsNow", "()I"⟩, 6) := ⟨⟨by decide +kernel, by decide +kernel⟩, List.mem_of_getElem? (i := 164) (by decide +kernel), List.mem_of_getElem? (i := 611) (by decide +kernel), List.mem_of_getElem? (i := 612) (by decide +kernel)⟩
theorem lw_p45 : lw_okq (⟨"LoftGraves$Plan", "quarrelsAmong", "(II)I"⟩, 6) := ⟨⟨by decide +kernel, by decide +kernel⟩, List.mem_of_getElem? (i := 164) (by decide +kernel), List.mem_of_getElem? (i := 615) (by decide +kernel), List.mem_of_getElem? (i := 616) (by decide +kernel)⟩
theorem lw_p46 : lw_okq (⟨"LoftGraves$Plan", "quarrelsOf", "(II)I"⟩, 6) := ⟨⟨by decide +kernel, by decide +kernel⟩, List.mem_of_getElem? (i := 164) (by decide +kernel), List.mem_of_getElem? (i := 619) (by decide +kernel), List.mem_of_getElem? (i := 620) (by decide +kernel)⟩
theorem lw_p47 : lw_okq (⟨"LoftGraves$Plan", "find", "(II)V"⟩, 6) := ⟨⟨by decide +kernel, by decide +kernel⟩, List.mem_of_getElem? (i := 164) (by decide +kernel), List.mem_of_getElem? (i := 630) (by decide +kernel), List.mem_of_getElem? (i := 631) (by decide +kernel)⟩
def lw_privs_3 : List (MethodName × Nat) := [(⟨"LoftGraves$Parish", "thawOf", "(II)I"⟩, 16), (⟨"LoftGraves$Parish", "soft", "()I"⟩, 16), (⟨"LoftGraves$Parish", "passNight", "(I)V"⟩, 16), (⟨"LoftGraves$Parish", "draw", "(I)I"⟩, 16), (⟨"LoftGraves$Parish", "boardless", "()I"⟩, 16), (⟨"LoftGraves$Parish", "layDown", "(II)I"⟩, 16), (⟨"LoftGraves", "useSpades", "(I)V"⟩, 12), (⟨"LoftGraves$Parish", "firstAmong", "(LLoftGraves$Custom;I)I"⟩, 16), (⟨"LoftGraves$Parish", "softAndFree", "()I"⟩, 16), (⟨"LoftGraves$Plan", "begin", "(LLoftGraves$Parish;LLoftGraves$Custom;)V"⟩, 6), (⟨"LoftGraves$Plan", "whoOffends", "(I)I"⟩, 6), (⟨"LoftGraves$Plan", "offends", "(II)Z"⟩, 6), (⟨"LoftGraves$Plan", "quarrelsNow", "()I"⟩, 6), (⟨"LoftGraves$Plan", "quarrelsAmong", "(II)I"⟩, 6), (⟨"LoftGraves$Plan", "quarrelsOf", "(II)I"⟩, 6), (⟨"LoftGraves$Plan", "find", "(II)V"⟩, 6)]
theorem lw_r3 : ∀ q ∈ lw_privs_3, lw_okq q := List.forall_mem_cons.mpr ⟨lw_p32, List.forall_mem_cons.mpr ⟨lw_p33, List.forall_mem_cons.mpr ⟨lw_p34, List.forall_mem_cons.mpr ⟨lw_p35, List.forall_mem_cons.mpr ⟨lw_p36, List.forall_mem_cons.mpr ⟨lw_p37, List.forall_mem_cons.mpr ⟨lw_p38, List.forall_mem_cons.mpr ⟨lw_p39, List.forall_mem_cons.mpr ⟨lw_p40, List.forall_mem_cons.mpr ⟨lw_p41, List.forall_mem_cons.mpr ⟨lw_p42, List.forall_mem_cons.mpr ⟨lw_p43, List.forall_mem_cons.mpr ⟨lw_p44, List.forall_mem_cons.mpr ⟨lw_p45, List.forall_mem_cons.mpr ⟨lw_p46, List.forall_mem_cons.mpr ⟨lw_p47, fun _ h => absurd h List.not_mem_nil⟩⟩⟩⟩⟩⟩⟩⟩⟩⟩⟩⟩⟩⟩⟩⟩
theorem lw_p48 : lw_okq (⟨"LoftGraves$Parish", "daysUntilSoft", "(II)I"⟩, 16) := ⟨⟨by decide +kernel, by decide +kernel⟩, List.mem_of_getElem? (i := 69) (by decide +kernel), List.mem_of_getElem? (i := 644) (by decide +kernel), List.mem_of_getElem? (i := 645) (by decide +kernel)⟩
theorem lw_p49 : lw_okq (⟨"LoftGraves$Parish", "softBehind", "(II)I"⟩, 16) := ⟨⟨by decide +kernel, by decide +kernel⟩, List.mem_of_getElem? (i := 69) (by decide +kernel), List.mem_of_getElem? (i := 648) (by decide +kernel), List.mem_of_getElem? (i := 649) (by decide +kernel)⟩
theorem lw_p50 : lw_okq (⟨"LoftGraves", "leastBribe", "(II)I"⟩, 12) := ⟨⟨by decide +kernel, by decide +kernel⟩, List.mem_of_getElem? (i := 16) (by decide +kernel), List.mem_of_getElem? (i := 660) (by decide +kernel), List.mem_of_getElem? (i := 661) (by decide +kernel)⟩
theorem lw_p51 : lw_okq (⟨"LoftGraves$Naming", "countWays", "(LLoftGraves$Parish;)I"⟩, 1) := ⟨⟨by decide +kernel, by decide +kernel⟩, List.mem_of_getElem? (i := 192) (by decide +kernel), List.mem_of_getElem? (i := 677) (by decide +kernel), List.mem_of_getElem? (i := 678) (by decide +kernel)⟩
theorem lw_p52 : lw_okq (⟨"LoftGraves$Naming", "weigh", "(LLoftGraves$Parish;)V"⟩, 1) := ⟨⟨by decide +kernel, by decide +kernel⟩, List.mem_of_getElem? (i := 192) (by decide +kernel), List.mem_of_getElem? (i := 691) (by decide +kernel), List.mem_of_getElem? (i := 692) (by decide +kernel)⟩
theorem lw_p53 : lw_okq (⟨"LoftGraves$Naming", "changesWith", "(LLoftGraves$Parish;II)I"⟩, 1) := ⟨⟨by decide +kernel, by decide +kernel⟩, List.mem_of_getElem? (i := 192) (by decide +kernel), List.mem_of_getElem? (i := 695) (by decide +kernel), List.mem_of_getElem? (i := 696) (by decide +kernel)⟩
theorem lw_p54 : lw_okq (⟨"LoftGraves$Naming", "fewestChanges", "()I"⟩, 1) := ⟨⟨by decide +kernel, by decide +kernel⟩, List.mem_of_getElem? (i := 192) (by decide +kernel), List.mem_of_getElem? (i := 700) (by decide +kernel), List.mem_of_getElem? (i := 701) (by decide +kernel)⟩
theorem lw_p55 : lw_okq (⟨"LoftGraves$Naming", "nameOf", "(LLoftGraves$Parish;I)I"⟩, 1) := ⟨⟨by decide +kernel, by decide +kernel⟩, List.mem_of_getElem? (i := 192) (by decide +kernel), List.mem_of_getElem? (i := 704) (by decide +kernel), List.mem_of_getElem? (i := 705) (by decide +kernel)⟩
theorem lw_p56 : lw_okq (⟨"LoftGraves$Parish", "ranksOf", "(I)I"⟩, 16) := ⟨⟨by decide +kernel, by decide +kernel⟩, List.mem_of_getElem? (i := 69) (by decide +kernel), List.mem_of_getElem? (i := 712) (by decide +kernel), List.mem_of_getElem? (i := 713) (by decide +kernel)⟩
theorem lw_p57 : lw_okq (⟨"LoftGraves$Book", "add", "(II)V"⟩, 3) := ⟨⟨by decide +kernel, by decide +kernel⟩, List.mem_of_getElem? (i := 145) (by decide +kernel), List.mem_of_getElem? (i := 721) (by decide +kernel), List.mem_of_getElem? (i := 722) (by decide +kernel)⟩
theorem lw_p58 : lw_okq (⟨"LoftGravesModel", "start", "()V"⟩, 31) := ⟨⟨by decide +kernel, by decide +kernel⟩, List.mem_of_getElem? (i := 746) (by decide +kernel), List.mem_of_getElem? (i := 862) (by decide +kernel), List.mem_of_getElem? (i := 863) (by decide +kernel)⟩
theorem lw_p59 : lw_okq (⟨"LoftGravesModel", "here", "()I"⟩, 31) := ⟨⟨by decide +kernel, by decide +kernel⟩, List.mem_of_getElem? (i := 746) (by decide +kernel), List.mem_of_getElem? (i := 866) (by decide +kernel), List.mem_of_getElem? (i := 867) (by decide +kernel)⟩
theorem lw_p60 : lw_okq (⟨"LoftGravesModel", "takeClause", "()V"⟩, 31) := ⟨⟨by decide +kernel, by decide +kernel⟩, List.mem_of_getElem? (i := 746) (by decide +kernel), List.mem_of_getElem? (i := 870) (by decide +kernel), List.mem_of_getElem? (i := 871) (by decide +kernel)⟩
theorem lw_p61 : lw_okq (⟨"LoftGravesModel", "takeWord", "()V"⟩, 31) := ⟨⟨by decide +kernel, by decide +kernel⟩, List.mem_of_getElem? (i := 746) (by decide +kernel), List.mem_of_getElem? (i := 874) (by decide +kernel), List.mem_of_getElem? (i := 875) (by decide +kernel)⟩
theorem lw_p62 : lw_okq (⟨"LoftGravesModel", "isWord", "(IIIIII)Z"⟩, 31) := ⟨⟨by decide +kernel, by decide +kernel⟩, List.mem_of_getElem? (i := 746) (by decide +kernel), List.mem_of_getElem? (i := 880) (by decide +kernel), List.mem_of_getElem? (i := 881) (by decide +kernel)⟩
theorem lw_p63 : lw_okq (⟨"LoftGravesModel", "want", "(ZII)Z"⟩, 31) := ⟨⟨by decide +kernel, by decide +kernel⟩, List.mem_of_getElem? (i := 746) (by decide +kernel), List.mem_of_getElem? (i := 884) (by decide +kernel), List.mem_of_getElem? (i := 885) (by decide +kernel)⟩
def lw_privs_4 : List (MethodName × Nat) := [(⟨"LoftGraves$Parish", "daysUntilSoft", "(II)I"⟩, 16), (⟨"LoftGraves$Parish", "softBehind", "(II)I"⟩, 16), (⟨"LoftGraves", "leastBribe", "(II)I"⟩, 12), (⟨"LoftGraves$Naming", "countWays", "(LLoftGraves$Parish;)I"⟩, 1), (⟨"LoftGraves$Naming", "weigh", "(LLoftGraves$Parish;)V"⟩, 1), (⟨"LoftGraves$Naming", "changesWith", "(LLoftGraves$Parish;II)I"⟩, 1), (⟨"LoftGraves$Naming", "fewestChanges", "()I"⟩, 1), (⟨"LoftGraves$Naming", "nameOf", "(LLoftGraves$Parish;I)I"⟩, 1), (⟨"LoftGraves$Parish", "ranksOf", "(I)I"⟩, 16), (⟨"LoftGraves$Book", "add", "(II)V"⟩, 3), (⟨"LoftGravesModel", "start", "()V"⟩, 31), (⟨"LoftGravesModel", "here", "()I"⟩, 31), (⟨"LoftGravesModel", "takeClause", "()V"⟩, 31), (⟨"LoftGravesModel", "takeWord", "()V"⟩, 31), (⟨"LoftGravesModel", "isWord", "(IIIIII)Z"⟩, 31), (⟨"LoftGravesModel", "want", "(ZII)Z"⟩, 31)]
theorem lw_r4 : ∀ q ∈ lw_privs_4, lw_okq q := List.forall_mem_cons.mpr ⟨lw_p48, List.forall_mem_cons.mpr ⟨lw_p49, List.forall_mem_cons.mpr ⟨lw_p50, List.forall_mem_cons.mpr ⟨lw_p51, List.forall_mem_cons.mpr ⟨lw_p52, List.forall_mem_cons.mpr ⟨lw_p53, List.forall_mem_cons.mpr ⟨lw_p54, List.forall_mem_cons.mpr ⟨lw_p55, List.forall_mem_cons.mpr ⟨lw_p56, List.forall_mem_cons.mpr ⟨lw_p57, List.forall_mem_cons.mpr ⟨lw_p58, List.forall_mem_cons.mpr ⟨lw_p59, List.forall_mem_cons.mpr ⟨lw_p60, List.forall_mem_cons.mpr ⟨lw_p61, List.forall_mem_cons.mpr ⟨lw_p62, List.forall_mem_cons.mpr ⟨lw_p63, fun _ h => absurd h List.not_mem_nil⟩⟩⟩⟩⟩⟩⟩⟩⟩⟩⟩⟩⟩⟩⟩⟩
theorem lw_p64 : lw_okq (⟨"LoftGravesModel", "takeNumber", "(II)I"⟩, 31) := ⟨⟨by decide +kernel, by decide +kernel⟩, List.mem_of_getElem? (i := 746) (by decide +kernel), List.mem_of_getElem? (i := 888) (by decide +kernel), List.mem_of_getElem? (i := 889) (by decide +kernel)⟩
theorem lw_p65 : lw_okq (⟨"LoftGravesModel", "takeEnd", "()V"⟩, 31) := ⟨⟨by decide +kernel, by decide +kernel⟩, List.mem_of_getElem? (i := 746) (by decide +kernel), List.mem_of_getElem? (i := 895) (by decide +kernel), List.mem_of_getElem? (i := 896) (by decide +kernel)⟩
theorem lw_p66 : lw_okq (⟨"LoftGravesModel", "loft", "(I)I"⟩, 31) := ⟨⟨by decide +kernel, by decide +kernel⟩, List.mem_of_getElem? (i := 746) (by decide +kernel), List.mem_of_getElem? (i := 914) (by decide +kernel), List.mem_of_getElem? (i := 915) (by decide +kernel)⟩
theorem lw_p67 : lw_okq (⟨"LoftGravesModel", "isInLoft", "(II)Z"⟩, 31) := ⟨⟨by decide +kernel, by decide +kernel⟩, List.mem_of_getElem? (i := 746) (by decide +kernel), List.mem_of_getElem? (i := 918) (by decide +kernel), List.mem_of_getElem? (i := 919) (by decide +kernel)⟩
theorem lw_p68 : lw_okq (⟨"LoftGravesModel", "laid", "(I)I"⟩, 31) := ⟨⟨by decide +kernel, by decide +kernel⟩, List.mem_of_getElem? (i := 746) (by decide +kernel), List.mem_of_getElem? (i := 925) (by decide +kernel), List.mem_of_getElem? (i := 926) (by decide +kernel)⟩
theorem lw_p69 : lw_okq (⟨"LoftGravesModel", "isYard", "(I)Z"⟩, 31) := ⟨⟨by decide +kernel, by decide +kernel⟩, List.mem_of_getElem? (i := 746) (by decide +kernel), List.mem_of_getElem? (i := 933) (by decide +kernel), List.mem_of_getElem? (i := 934) (by decide +kernel)⟩
theorem lw_p70 : lw_okq (⟨"LoftGravesModel", "who", "(II)I"⟩, 31) := ⟨⟨by decide +kernel, by decide +kernel⟩, List.mem_of_getElem? (i := 746) (by decide +kernel), List.mem_of_getElem? (i := 938) (by decide +kernel), List.mem_of_getElem? (i := 939) (by decide +kernel)⟩
theorem lw_p71 : lw_okq (⟨"LoftGravesModel", "isDead", "(I)Z"⟩, 31) := ⟨⟨by decide +kernel, by decide +kernel⟩, List.mem_of_getElem? (i := 746) (by decide +kernel), List.mem_of_getElem? (i := 946) (by decide +kernel), List.mem_of_getElem? (i := 947) (by decide +kernel)⟩
theorem lw_p72 : lw_okq (⟨"LoftGravesModel", "inOrder", "(II)I"⟩, 31) := ⟨⟨by decide +kernel, by decide +kernel⟩, List.mem_of_getElem? (i := 746) (by decide +kernel), List.mem_of_getElem? (i := 954) (by decide +kernel), List.mem_of_getElem? (i := 955) (by decide +kernel)⟩
theorem lw_p73 : lw_okq (⟨"LoftGravesModel", "placeOf", "(II)I"⟩, 31) := ⟨⟨by decide +kernel, by decide +kernel⟩, List.mem_of_getElem? (i := 746) (by decide +kernel), List.mem_of_getElem? (i := 958) (by decide +kernel), List.mem_of_getElem? (i := 959) (by decide +kernel)⟩
theorem lw_p74 : lw_okq (⟨"LoftGravesModel", "isAhead", "(III)Z"⟩, 31) := ⟨⟨by decide +kernel, by decide +kernel⟩, List.mem_of_getElem? (i := 746) (by decide +kernel), List.mem_of_getElem? (i := 962) (by decide +kernel), List.mem_of_getElem? (i := 963) (by decide +kernel)⟩
theorem lw_p75 : lw_okq (⟨"LoftGravesModel", "isAheadByCustom", "(III)Z"⟩, 31) := ⟨⟨by decide +kernel, by decide +kernel⟩, List.mem_of_getElem? (i := 746) (by decide +kernel), List.mem_of_getElem? (i := 966) (by decide +kernel), List.mem_of_getElem? (i := 967) (by decide +kernel)⟩
theorem lw_p76 : lw_okq (⟨"LoftGravesModel", "valueBy", "(III)I"⟩, 31) := ⟨⟨by decide +kernel, by decide +kernel⟩, List.mem_of_getElem? (i := 746) (by decide +kernel), List.mem_of_getElem? (i := 970) (by decide +kernel), List.mem_of_getElem? (i := 971) (by decide +kernel)⟩
theorem lw_p77 : lw_okq (⟨"LoftGravesModel", "pass", "(I)V"⟩, 31) := ⟨⟨by decide +kernel, by decide +kernel⟩, List.mem_of_getElem? (i := 746) (by decide +kernel), List.mem_of_getElem? (i := 995) (by decide +kernel), List.mem_of_getElem? (i := 996) (by decide +kernel)⟩
theorem lw_p78 : lw_okq (⟨"LoftGravesModel", "rate", "(II)I"⟩, 31) := ⟨⟨by decide +kernel, by decide +kernel⟩, List.mem_of_getElem? (i := 746) (by decide +kernel), List.mem_of_getElem? (i := 999) (by decide +kernel), List.mem_of_getElem? (i := 1000) (by decide +kernel)⟩
theorem lw_p79 : lw_okq (⟨"LoftGravesModel", "softYards", "()I"⟩, 31) := ⟨⟨by decide +kernel, by decide +kernel⟩, List.mem_of_getElem? (i := 746) (by decide +kernel), List.mem_of_getElem? (i := 1003) (by decide +kernel), List.mem_of_getElem? (i := 1004) (by decide +kernel)⟩
def lw_privs_5 : List (MethodName × Nat) := [(⟨"LoftGravesModel", "takeNumber", "(II)I"⟩, 31), (⟨"LoftGravesModel", "takeEnd", "()V"⟩, 31), (⟨"LoftGravesModel", "loft", "(I)I"⟩, 31), (⟨"LoftGravesModel", "isInLoft", "(II)Z"⟩, 31), (⟨"LoftGravesModel", "laid", "(I)I"⟩, 31), (⟨"LoftGravesModel", "isYard", "(I)Z"⟩, 31), (⟨"LoftGravesModel", "who", "(II)I"⟩, 31), (⟨"LoftGravesModel", "isDead", "(I)Z"⟩, 31), (⟨"LoftGravesModel", "inOrder", "(II)I"⟩, 31), (⟨"LoftGravesModel", "placeOf", "(II)I"⟩, 31), (⟨"LoftGravesModel", "isAhead", "(III)Z"⟩, 31), (⟨"LoftGravesModel", "isAheadByCustom", "(III)Z"⟩, 31), (⟨"LoftGravesModel", "valueBy", "(III)I"⟩, 31), (⟨"LoftGravesModel", "pass", "(I)V"⟩, 31), (⟨"LoftGravesModel", "rate", "(II)I"⟩, 31), (⟨"LoftGravesModel", "softYards", "()I"⟩, 31)]
theorem lw_r5 : ∀ q ∈ lw_privs_5, lw_okq q := List.forall_mem_cons.mpr ⟨lw_p64, List.forall_mem_cons.mpr ⟨lw_p65, List.forall_mem_cons.mpr ⟨lw_p66, List.forall_mem_cons.mpr ⟨lw_p67, List.forall_mem_cons.mpr ⟨lw_p68, List.forall_mem_cons.mpr ⟨lw_p69, List.forall_mem_cons.mpr ⟨lw_p70, List.forall_mem_cons.mpr ⟨lw_p71, List.forall_mem_cons.mpr ⟨lw_p72, List.forall_mem_cons.mpr ⟨lw_p73, List.forall_mem_cons.mpr ⟨lw_p74, List.forall_mem_cons.mpr ⟨lw_p75, List.forall_mem_cons.mpr ⟨lw_p76, List.forall_mem_cons.mpr ⟨lw_p77, List.forall_mem_cons.mpr ⟨lw_p78, List.forall_mem_cons.mpr ⟨lw_p79, fun _ h => absurd h List.not_mem_nil⟩⟩⟩⟩⟩⟩⟩⟩⟩⟩⟩⟩⟩⟩⟩⟩
theorem lw_p80 : lw_okq (⟨"LoftGravesModel", "gnaw", "(I)V"⟩, 31) := ⟨⟨by decide +kernel, by decide +kernel⟩, List.mem_of_getElem? (i := 746) (by decide +kernel), List.mem_of_getElem? (i := 1012) (by decide +kernel), List.mem_of_getElem? (i := 1013) (by decide +kernel)⟩
theorem lw_p81 : lw_okq (⟨"LoftGravesModel", "draw", "(I)I"⟩, 31) := ⟨⟨by decide +kernel, by decide +kernel⟩, List.mem_of_getElem? (i := 746) (by decide +kernel), List.mem_of_getElem? (i := 1016) (by decide +kernel), List.mem_of_getElem? (i := 1017) (by decide +kernel)⟩
theorem lw_p82 : lw_okq (⟨"LoftGravesModel", "layIn", "(III)I"⟩, 31) := ⟨⟨by decide +kernel, by decide +kernel⟩, List.mem_of_getElem? (i := 746) (by decide +kernel), List.mem_of_getElem? (i := 1028) (by decide +kernel), List.mem_of_getElem? (i := 1029) (by decide +kernel)⟩
theorem lw_p83 : lw_okq (⟨"LoftGravesModel", "leastSoft", "()I"⟩, 31) := ⟨⟨by decide +kernel, by decide +kernel⟩, List.mem_of_getElem? (i := 746) (by decide +kernel), List.mem_of_getElem? (i := 1036) (by decide +kernel), List.mem_of_getElem? (i := 1037) (by decide +kernel)⟩
theorem lw_p84 : lw_okq (⟨"LoftGravesModel", "offends", "(III)Z"⟩, 31) := ⟨⟨by decide +kernel, by decide +kernel⟩, List.mem_of_getElem? (i := 746) (by decide +kernel), List.mem_of_getElem? (i := 1047) (by decide +kernel), List.mem_of_getElem? (i := 1048) (by decide +kernel)⟩
theorem lw_p85 : lw_okq (⟨"LoftGravesModel", "quarrelsIn", "(I)I"⟩, 31) := ⟨⟨by decide +kernel, by decide +kernel⟩, List.mem_of_getElem? (i := 746) (by decide +kernel), List.mem_of_getElem? (i := 1055) (by decide +kernel), List.mem_of_getElem? (i := 1056) (by decide +kernel)⟩
theorem lw_p86 : lw_okq (⟨"LoftGravesModel", "findLaying", "()Z"⟩, 31) := ⟨⟨by decide +kernel, by decide +kernel⟩, List.mem_of_getElem? (i := 746) (by decide +kernel), List.mem_of_getElem? (i := 1066) (by decide +kernel), List.mem_of_getElem? (i := 1067) (by decide +kernel)⟩
theorem lw_p87 : lw_okq (⟨"LoftGravesModel", "copy", "(II)V"⟩, 31) := ⟨⟨by decide +kernel, by decide +kernel⟩, List.mem_of_getElem? (i := 746) (by decide +kernel), List.mem_of_getElem? (i := 1070) (by decide +kernel), List.mem_of_getElem? (i := 1071) (by decide +kernel)⟩
theorem lw_p88 : lw_okq (⟨"LoftGravesModel", "isFree", "(I)Z"⟩, 31) := ⟨⟨by decide +kernel, by decide +kernel⟩, List.mem_of_getElem? (i := 746) (by decide +kernel), List.mem_of_getElem? (i := 1074) (by decide +kernel), List.mem_of_getElem? (i := 1075) (by decide +kernel)⟩
theorem lw_p89 : lw_okq (⟨"LoftGravesModel", "fill", "(II)Z"⟩, 31) := ⟨⟨by decide +kernel, by decide +kernel⟩, List.mem_of_getElem? (i := 746) (by decide +kernel), List.mem_of_getElem? (i := 1078) (by decide +kernel), List.mem_of_getElem? (i := 1079) (by decide +kernel)⟩
theorem lw_p90 : lw_okq (⟨"LoftGravesModel", "isUnlike", "(I)Z"⟩, 31) := ⟨⟨by decide +kernel, by decide +kernel⟩, List.mem_of_getElem? (i := 746) (by decide +kernel), List.mem_of_getElem? (i := 1082) (by decide +kernel), List.mem_of_getElem? (i := 1083) (by decide +kernel)⟩
theorem lw_p91 : lw_okq (⟨"LoftGravesModel", "goOn", "(I)Z"⟩, 31) := ⟨⟨by decide +kernel, by decide +kernel⟩, List.mem_of_getElem? (i := 746) (by decide +kernel), List.mem_of_getElem? (i := 1086) (by decide +kernel), List.mem_of_getElem? (i := 1087) (by decide +kernel)⟩
theorem lw_p92 : lw_okq (⟨"LoftGravesModel", "whenSoft", "(II)I"⟩, 31) := ⟨⟨by decide +kernel, by decide +kernel⟩, List.mem_of_getElem? (i := 746) (by decide +kernel), List.mem_of_getElem? (i := 1094) (by decide +kernel), List.mem_of_getElem? (i := 1095) (by decide +kernel)⟩
theorem lw_p93 : lw_okq (⟨"LoftGravesModel", "daysTill", "(II)I"⟩, 31) := ⟨⟨by decide +kernel, by decide +kernel⟩, List.mem_of_getElem? (i := 746) (by decide +kernel), List.mem_of_getElem? (i := 1098) (by decide +kernel), List.mem_of_getElem? (i := 1099) (by decide +kernel)⟩
theorem lw_p94 : lw_okq (⟨"LoftGravesModel", "findNames", "()V"⟩, 31) := ⟨⟨by decide +kernel, by decide +kernel⟩, List.mem_of_getElem? (i := 746) (by decide +kernel), List.mem_of_getElem? (i := 1123) (by decide +kernel), List.mem_of_getElem? (i := 1124) (by decide +kernel)⟩
theorem lw_p95 : lw_okq (⟨"LoftGravesModel", "ahead", "(I)I"⟩, 31) := ⟨⟨by decide +kernel, by decide +kernel⟩, List.mem_of_getElem? (i := 746) (by decide +kernel), List.mem_of_getElem? (i := 1127) (by decide +kernel), List.mem_of_getElem? (i := 1128) (by decide +kernel)⟩
def lw_privs_6 : List (MethodName × Nat) := [(⟨"LoftGravesModel", "gnaw", "(I)V"⟩, 31), (⟨"LoftGravesModel", "draw", "(I)I"⟩, 31), (⟨"LoftGravesModel", "layIn", "(III)I"⟩, 31), (⟨"LoftGravesModel", "leastSoft", "()I"⟩, 31), (⟨"LoftGravesModel", "offends", "(III)Z"⟩, 31), (⟨"LoftGravesModel", "quarrelsIn", "(I)I"⟩, 31), (⟨"LoftGravesModel", "findLaying", "()Z"⟩, 31), (⟨"LoftGravesModel", "copy", "(II)V"⟩, 31), (⟨"LoftGravesModel", "isFree", "(I)Z"⟩, 31), (⟨"LoftGravesModel", "fill", "(II)Z"⟩, 31), (⟨"LoftGravesModel", "isUnlike", "(I)Z"⟩, 31), (⟨"LoftGravesModel", "goOn", "(I)Z"⟩, 31), (⟨"LoftGravesModel", "whenSoft", "(II)I"⟩, 31), (⟨"LoftGravesModel", "daysTill", "(II)I"⟩, 31), (⟨"LoftGravesModel", "findNames", "()V"⟩, 31), (⟨"LoftGravesModel", "ahead", "(I)I"⟩, 31)]
theorem lw_r6 : ∀ q ∈ lw_privs_6, lw_okq q := List.forall_mem_cons.mpr ⟨lw_p80, List.forall_mem_cons.mpr ⟨lw_p81, List.forall_mem_cons.mpr ⟨lw_p82, List.forall_mem_cons.mpr ⟨lw_p83, List.forall_mem_cons.mpr ⟨lw_p84, List.forall_mem_cons.mpr ⟨lw_p85, List.forall_mem_cons.mpr ⟨lw_p86, List.forall_mem_cons.mpr ⟨lw_p87, List.forall_mem_cons.mpr ⟨lw_p88, List.forall_mem_cons.mpr ⟨lw_p89, List.forall_mem_cons.mpr ⟨lw_p90, List.forall_mem_cons.mpr ⟨lw_p91, List.forall_mem_cons.mpr ⟨lw_p92, List.forall_mem_cons.mpr ⟨lw_p93, List.forall_mem_cons.mpr ⟨lw_p94, List.forall_mem_cons.mpr ⟨lw_p95, fun _ h => absurd h List.not_mem_nil⟩⟩⟩⟩⟩⟩⟩⟩⟩⟩⟩⟩⟩⟩⟩⟩
def lw_privs : List (MethodName × Nat) := lw_privs_1 ++ (lw_privs_2 ++ (lw_privs_3 ++ (lw_privs_4 ++ (lw_privs_5 ++ (lw_privs_6)))))
def lw_tbl : List Cond := k2_sels lw_privs ++ tables_1
theorem lw_privs_ok : ∀ q ∈ lw_privs, lw_okq q := by
  show ∀ q ∈ lw_privs_1 ++ (lw_privs_2 ++ (lw_privs_3 ++ (lw_privs_4 ++ (lw_privs_5 ++ (lw_privs_6))))), lw_okq q
  exact List.forall_mem_append.mpr ⟨lw_r1, List.forall_mem_append.mpr ⟨lw_r2, List.forall_mem_append.mpr ⟨lw_r3, List.forall_mem_append.mpr ⟨lw_r4, List.forall_mem_append.mpr ⟨lw_r5, lw_r6⟩⟩⟩⟩⟩

/-! ===== BEGIN words of one list among another's, by their places ===== -/
theorem goodIn_r {big : List Cond} (ws : List Cond) (ps : List Nat) (hp : ws = ps.filterMap (fun i => big[i]?)) (h : ws.all goodWord = true) : GoodIn big ws := by
  intro w hw
  have h1 := List.all_eq_true.mp h w hw
  rw [hp] at hw
  obtain ⟨i, -, hi⟩ := List.mem_filterMap.mp hw
  have hm : w ∈ big := by first | exact List.mem_of_getElem? hi | exact List.getElem?_mem hi
  exact ⟨hm, good_of_word h1⟩
theorem goodIn_app {big a b : List Cond} (ha : GoodIn big a) (hb : GoodIn big b) : GoodIn big (a ++ b) := fun w h => (List.mem_append.mp h).elim (ha w) (hb w)
theorem goodIn_ca {big a b : List Cond} {c : Cond} (ha : GoodIn big (c :: a)) (hb : GoodIn big b) : GoodIn big (c :: (a ++ b)) := fun w h => (List.mem_cons.mp h).elim (fun e => ha w (List.mem_cons.mpr (Or.inl e))) (fun h => (List.mem_append.mp h).elim (fun h => ha w (List.mem_cons.mpr (Or.inr h))) (hb w))
theorem goodIn_sub {big ws : List Cond} (hm : ∀ w ∈ ws, w ∈ big) (h : ws.all goodWord = true) : GoodIn big ws := fun w hw => ⟨hm w hw, good_of_word (List.all_eq_true.mp h w hw)⟩
/-! ===== END ===== -/

/-! ===== BEGIN printed: names, fields, word lists, decode rows ===== -/
def RX0 : String := "LoftGraves$Book"
def TX0 : u_T := fun k => match k with
  | 0 => ("LoftGraves$Book", "who", "[I", true)
  | 1 => ("LoftGraves$Book", "where", "[I", true)
  | _ => ("LoftGraves$Book", "count", "I", false)
def tyX0 : Nat → FieldType := fun k => match k with
  | 0 => .array .int
  | 1 => .array .int
  | _ => .int
abbrev wsX00 : List Cond := u_ws RX0 TX0 3
theorem nmX0 : ∀ a, a < 3 → ∀ b, b < 3 → a ≠ b → (TX0 a).2.1 ≠ (TX0 b).2.1 := by decide +kernel
theorem tyX0_ok : ∀ k, k < 3 → parseFieldDescriptor (TX0 k).2.2.1 = some (tyX0 k) := by decide +kernel
abbrev cX0_init : ByteArray := prog_2_method_1_code
def yX0_init : MethodName := ⟨RX0, "<init>", "()V"⟩
abbrev cX0_add : ByteArray := prog_2_method_2_code
def yX0_add : MethodName := ⟨RX0, "add", "(II)V"⟩
def RX1 : String := "LoftGraves$Custom"
def TX1 : u_T := fun k => match k with
  | 0 => ("LoftGraves$Custom", "clauses", "[I", true)
  | _ => ("LoftGraves$Custom", "count", "I", false)
def tyX1 : Nat → FieldType := fun k => match k with
  | 0 => .array .int
  | _ => .int
abbrev wsX10 : List Cond := u_ws RX1 TX1 2
theorem nmX1 : ∀ a, a < 2 → ∀ b, b < 2 → a ≠ b → (TX1 a).2.1 ≠ (TX1 b).2.1 := by decide +kernel
theorem tyX1_ok : ∀ k, k < 2 → parseFieldDescriptor (TX1 k).2.2.1 = some (tyX1 k) := by decide +kernel
abbrev cX1_init : ByteArray := prog_3_method_1_code
def yX1_init : MethodName := ⟨RX1, "<init>", "()V"⟩
abbrev cX1_add : ByteArray := prog_3_method_2_code
def yX1_add : MethodName := ⟨RX1, "add", "(I)V"⟩
abbrev cX1_counts : ByteArray := prog_3_method_3_code
def yX1_counts : MethodName := ⟨RX1, "counts", "(I)Z"⟩
abbrev cX1_copyFrom : ByteArray := prog_3_method_4_code
def yX1_copyFrom : MethodName := ⟨RX1, "copyFrom", "(LLoftGraves$Custom;)V"⟩
abbrev cX1_readFrom : ByteArray := prog_3_method_5_code
def yX1_readFrom : MethodName := ⟨RX1, "readFrom", "(LLoftGraves$Text;)V"⟩
abbrev cX1_readClause : ByteArray := prog_3_method_6_code
def yX1_readClause : MethodName := ⟨RX1, "readClause", "(LLoftGraves$Text;)V"⟩
def RX2 : String := "LoftGraves$Naming"
def TX2 : u_T := fun k => match k with
  | _ => ("LoftGraves$Naming", "tally", "[I", true)
def tyX2 : Nat → FieldType := fun k => match k with
  | _ => .array .int
abbrev wsX20 : List Cond := u_ws RX2 TX2 1
theorem nmX2 : ∀ a, a < 1 → ∀ b, b < 1 → a ≠ b → (TX2 a).2.1 ≠ (TX2 b).2.1 := by decide +kernel
theorem tyX2_ok : ∀ k, k < 1 → parseFieldDescriptor (TX2 k).2.2.1 = some (tyX2 k) := by decide +kernel
abbrev cX2_init : ByteArray := prog_4_method_1_code
def yX2_init : MethodName := ⟨RX2, "<init>", "()V"⟩
abbrev cX2_countWays : ByteArray := prog_4_method_2_code
def yX2_countWays : MethodName := ⟨RX2, "countWays", "(LLoftGraves$Parish;)I"⟩
abbrev cX2_weigh : ByteArray := prog_4_method_3_code
def yX2_weigh : MethodName := ⟨RX2, "weigh", "(LLoftGraves$Parish;)V"⟩
abbrev cX2_changesWith : ByteArray := prog_4_method_4_code
def yX2_changesWith : MethodName := ⟨RX2, "changesWith", "(LLoftGraves$Parish;II)I"⟩
abbrev cX2_fewestChanges : ByteArray := prog_4_method_5_code
def yX2_fewestChanges : MethodName := ⟨RX2, "fewestChanges", "()I"⟩
abbrev cX2_nameOf : ByteArray := prog_4_method_6_code
def yX2_nameOf : MethodName := ⟨RX2, "nameOf", "(LLoftGraves$Parish;I)I"⟩
def RX3 : String := "LoftGraves$Parish"
def TX3 : u_T := fun k => match k with
  | 0 => ("LoftGraves$Parish", "yards", "I", false)
  | 1 => ("LoftGraves$Parish", "dead", "I", false)
  | 2 => ("LoftGraves$Parish", "sun", "I", false)
  | 3 => ("LoftGraves$Parish", "shade", "I", false)
  | 4 => ("LoftGraves$Parish", "frost", "[I", true)
  | 5 => ("LoftGraves$Parish", "rank", "[I", true)
  | 6 => ("LoftGraves$Parish", "waited", "[I", true)
  | 7 => ("LoftGraves$Parish", "kin", "[I", true)
  | 8 => ("LoftGraves$Parish", "gifts", "[I", true)
  | 9 => ("LoftGraves$Parish", "boards", "[I", true)
  | 10 => ("LoftGraves$Parish", "yardOf", "[I", true)
  | 11 => ("LoftGraves$Parish", "labels", "[I", true)
  | 12 => ("LoftGraves$Parish", "marks", "[I", true)
  | 13 => ("LoftGraves$Parish", "knocked", "I", false)
  | 14 => ("LoftGraves$Parish", "hours", "I", false)
  | _ => ("LoftGraves$Parish", "chance", "I", false)
def tyX3 : Nat → FieldType := fun k => match k with
  | 0 => .int
  | 1 => .int
  | 2 => .int
  | 3 => .int
  | 4 => .array .int
  | 5 => .array .int
  | 6 => .array .int
  | 7 => .array .int
  | 8 => .array .int
  | 9 => .array .int
  | 10 => .array .int
  | 11 => .array .int
  | 12 => .array .int
  | 13 => .int
  | 14 => .int
  | _ => .int
abbrev wsX30 : List Cond := u_ws RX3 TX3 16
theorem nmX3 : ∀ a, a < 16 → ∀ b, b < 16 → a ≠ b → (TX3 a).2.1 ≠ (TX3 b).2.1 := by decide +kernel
theorem tyX3_ok : ∀ k, k < 16 → parseFieldDescriptor (TX3 k).2.2.1 = some (tyX3 k) := by decide +kernel
abbrev cX3_init : ByteArray := prog_5_method_1_code
def yX3_init : MethodName := ⟨RX3, "<init>", "()V"⟩
abbrev cX3_copyFrom : ByteArray := prog_5_method_2_code
def yX3_copyFrom : MethodName := ⟨RX3, "copyFrom", "(LLoftGraves$Parish;)V"⟩
abbrev cX3_readFrom : ByteArray := prog_5_method_3_code
def yX3_readFrom : MethodName := ⟨RX3, "readFrom", "(LLoftGraves$Text;)V"⟩
abbrev cX3_readClause : ByteArray := prog_5_method_4_code
def yX3_readClause : MethodName := ⟨RX3, "readClause", "(LLoftGraves$Text;)V"⟩
abbrev cX3_readSun : ByteArray := prog_5_method_5_code
def yX3_readSun : MethodName := ⟨RX3, "readSun", "(LLoftGraves$Text;I)V"⟩
abbrev cX3_readYard : ByteArray := prog_5_method_6_code
def yX3_readYard : MethodName := ⟨RX3, "readYard", "(LLoftGraves$Text;I)V"⟩
abbrev cX3_readDead : ByteArray := prog_5_method_7_code
def yX3_readDead : MethodName := ⟨RX3, "readDead", "(LLoftGraves$Text;I)V"⟩
abbrev cX3_settle : ByteArray := prog_5_method_8_code
def yX3_settle : MethodName := ⟨RX3, "settle", "()V"⟩
abbrev cX3_hasYard : ByteArray := prog_5_method_9_code
def yX3_hasYard : MethodName := ⟨RX3, "hasYard", "(I)Z"⟩
abbrev cX3_hasDead : ByteArray := prog_5_method_10_code
def yX3_hasDead : MethodName := ⟨RX3, "hasDead", "(I)Z"⟩
abbrev cX3_laid : ByteArray := prog_5_method_11_code
def yX3_laid : MethodName := ⟨RX3, "laid", "()I"⟩
abbrev cX3_waiting : ByteArray := prog_5_method_12_code
def yX3_waiting : MethodName := ⟨RX3, "waiting", "()I"⟩
abbrev cX3_whoLiesIn : ByteArray := prog_5_method_13_code
def yX3_whoLiesIn : MethodName := ⟨RX3, "whoLiesIn", "(I)I"⟩
abbrev cX3_taken : ByteArray := prog_5_method_14_code
def yX3_taken : MethodName := ⟨RX3, "taken", "()I"⟩
abbrev cX3_soft : ByteArray := prog_5_method_15_code
def yX3_soft : MethodName := ⟨RX3, "soft", "()I"⟩
abbrev cX3_softAndFree : ByteArray := prog_5_method_16_code
def yX3_softAndFree : MethodName := ⟨RX3, "softAndFree", "()I"⟩
abbrev cX3_boardless : ByteArray := prog_5_method_17_code
def yX3_boardless : MethodName := ⟨RX3, "boardless", "()I"⟩
abbrev cX3_ranksOf : ByteArray := prog_5_method_18_code
def yX3_ranksOf : MethodName := ⟨RX3, "ranksOf", "(I)I"⟩
abbrev cX3_worth : ByteArray := prog_5_method_19_code
def yX3_worth : MethodName := ⟨RX3, "worth", "(II)I"⟩
abbrev cX3_claim : ByteArray := prog_5_method_20_code
def yX3_claim : MethodName := ⟨RX3, "claim", "(LLoftGraves$Custom;I)J"⟩
abbrev cX3_urgentClaim : ByteArray := prog_5_method_21_code
def yX3_urgentClaim : MethodName := ⟨RX3, "urgentClaim", "(LLoftGraves$Custom;I)J"⟩
abbrev cX3_placeAmong : ByteArray := prog_5_method_22_code
def yX3_placeAmong : MethodName := ⟨RX3, "placeAmong", "(LLoftGraves$Custom;II)I"⟩
abbrev cX3_firstAmong : ByteArray := prog_5_method_23_code
def yX3_firstAmong : MethodName := ⟨RX3, "firstAmong", "(LLoftGraves$Custom;I)I"⟩
abbrev cX3_thawOf : ByteArray := prog_5_method_24_code
def yX3_thawOf : MethodName := ⟨RX3, "thawOf", "(II)I"⟩
abbrev cX3_passDay : ByteArray := prog_5_method_25_code
def yX3_passDay : MethodName := ⟨RX3, "passDay", "(I)V"⟩
abbrev cX3_draw : ByteArray := prog_5_method_26_code
def yX3_draw : MethodName := ⟨RX3, "draw", "(I)I"⟩
abbrev cX3_passNight : ByteArray := prog_5_method_27_code
def yX3_passNight : MethodName := ⟨RX3, "passNight", "(I)V"⟩
abbrev cX3_layDown : ByteArray := prog_5_method_28_code
def yX3_layDown : MethodName := ⟨RX3, "layDown", "(II)I"⟩
abbrev cX3_softBehind : ByteArray := prog_5_method_29_code
def yX3_softBehind : MethodName := ⟨RX3, "softBehind", "(II)I"⟩
abbrev cX3_daysUntilSoft : ByteArray := prog_5_method_30_code
def yX3_daysUntilSoft : MethodName := ⟨RX3, "daysUntilSoft", "(II)I"⟩
def RX4 : String := "LoftGraves$Plan"
def TX4 : u_T := fun k => match k with
  | 0 => ("LoftGraves$Plan", "behind", "[I", true)
  | 1 => ("LoftGraves$Plan", "alike", "[I", true)
  | 2 => ("LoftGraves$Plan", "tried", "[I", true)
  | 3 => ("LoftGraves$Plan", "best", "[I", true)
  | 4 => ("LoftGraves$Plan", "fewest", "I", false)
  | _ => ("LoftGraves$Plan", "found", "Z", false)
def tyX4 : Nat → FieldType := fun k => match k with
  | 0 => .array .int
  | 1 => .array .int
  | 2 => .array .int
  | 3 => .array .int
  | 4 => .int
  | _ => .boolean
abbrev wsX40 : List Cond := u_ws RX4 TX4 6
theorem nmX4 : ∀ a, a < 6 → ∀ b, b < 6 → a ≠ b → (TX4 a).2.1 ≠ (TX4 b).2.1 := by decide +kernel
theorem tyX4_ok : ∀ k, k < 6 → parseFieldDescriptor (TX4 k).2.2.1 = some (tyX4 k) := by decide +kernel
abbrev cX4_init : ByteArray := prog_6_method_1_code
def yX4_init : MethodName := ⟨RX4, "<init>", "()V"⟩
abbrev cX4_begin : ByteArray := prog_6_method_2_code
def yX4_begin : MethodName := ⟨RX4, "begin", "(LLoftGraves$Parish;LLoftGraves$Custom;)V"⟩
abbrev cX4_offends : ByteArray := prog_6_method_3_code
def yX4_offends : MethodName := ⟨RX4, "offends", "(II)Z"⟩
abbrev cX4_whoOffends : ByteArray := prog_6_method_4_code
def yX4_whoOffends : MethodName := ⟨RX4, "whoOffends", "(I)I"⟩
abbrev cX4_quarrelsOf : ByteArray := prog_6_method_5_code
def yX4_quarrelsOf : MethodName := ⟨RX4, "quarrelsOf", "(II)I"⟩
abbrev cX4_quarrelsAmong : ByteArray := prog_6_method_6_code
def yX4_quarrelsAmong : MethodName := ⟨RX4, "quarrelsAmong", "(II)I"⟩
abbrev cX4_quarrelsNow : ByteArray := prog_6_method_7_code
def yX4_quarrelsNow : MethodName := ⟨RX4, "quarrelsNow", "()I"⟩
abbrev cX4_find : ByteArray := prog_6_method_8_code
def yX4_find : MethodName := ⟨RX4, "find", "(II)V"⟩
abbrev cX4_search : ByteArray := prog_6_method_9_code
def yX4_search : MethodName := ⟨RX4, "search", "(LLoftGraves$Plan;IIII)V"⟩
def RX5 : String := "LoftGraves$Text"
def TX5 : u_T := fun k => match k with
  | 0 => ("LoftGraves$Text", "bytes", "[B", true)
  | 1 => ("LoftGraves$Text", "length", "I", false)
  | 2 => ("LoftGraves$Text", "place", "I", false)
  | 3 => ("LoftGraves$Text", "flaw", "I", false)
  | _ => ("LoftGraves$Text", "flawPlace", "I", false)
def tyX5 : Nat → FieldType := fun k => match k with
  | 0 => .array .byte
  | 1 => .int
  | 2 => .int
  | 3 => .int
  | _ => .int
abbrev wsX50 : List Cond := u_ws RX5 TX5 5
theorem nmX5 : ∀ a, a < 5 → ∀ b, b < 5 → a ≠ b → (TX5 a).2.1 ≠ (TX5 b).2.1 := by decide +kernel
theorem tyX5_ok : ∀ k, k < 5 → parseFieldDescriptor (TX5 k).2.2.1 = some (tyX5 k) := by decide +kernel
abbrev cX5_init : ByteArray := prog_7_method_1_code
def yX5_init : MethodName := ⟨RX5, "<init>", "()V"⟩
abbrev cX5_append : ByteArray := prog_7_method_2_code
def yX5_append : MethodName := ⟨RX5, "append", "(I)V"⟩
abbrev cX5_begin : ByteArray := prog_7_method_3_code
def yX5_begin : MethodName := ⟨RX5, "begin", "()V"⟩
abbrev cX5_blame : ByteArray := prog_7_method_4_code
def yX5_blame : MethodName := ⟨RX5, "blame", "(II)V"⟩
abbrev cX5_byteAt : ByteArray := prog_7_method_5_code
def yX5_byteAt : MethodName := ⟨RX5, "byteAt", "(I)I"⟩
abbrev cX5_skipBlanks : ByteArray := prog_7_method_6_code
def yX5_skipBlanks : MethodName := ⟨RX5, "skipBlanks", "()V"⟩
abbrev cX5_goesOn : ByteArray := prog_7_method_7_code
def yX5_goesOn : MethodName := ⟨RX5, "goesOn", "()Z"⟩
abbrev cX5_takeWord : ByteArray := prog_7_method_8_code
def yX5_takeWord : MethodName := ⟨RX5, "takeWord", "(Ljava/lang/String;)Z"⟩
abbrev cX5_takeNumber : ByteArray := prog_7_method_9_code
def yX5_takeNumber : MethodName := ⟨RX5, "takeNumber", "(II)I"⟩
abbrev cX5_takeStop : ByteArray := prog_7_method_10_code
def yX5_takeStop : MethodName := ⟨RX5, "takeStop", "()V"⟩
def RX6 : String := "LoftGraves"
def TX6 : u_T := fun k => match k with
  | 0 => ("LoftGraves", "text", "LLoftGraves$Text;", true)
  | 1 => ("LoftGraves", "rules", "LLoftGraves$Custom;", true)
  | 2 => ("LoftGraves", "rulesDraft", "LLoftGraves$Custom;", true)
  | 3 => ("LoftGraves", "now", "LLoftGraves$Parish;", true)
  | 4 => ("LoftGraves", "draft", "LLoftGraves$Parish;", true)
  | 5 => ("LoftGraves", "firstImage", "LLoftGraves$Parish;", true)
  | 6 => ("LoftGraves", "secondImage", "LLoftGraves$Parish;", true)
  | 7 => ("LoftGraves", "firstKept", "Z", false)
  | 8 => ("LoftGraves", "secondKept", "Z", false)
  | 9 => ("LoftGraves", "book", "LLoftGraves$Book;", true)
  | 10 => ("LoftGraves", "plan", "LLoftGraves$Plan;", true)
  | _ => ("LoftGraves", "naming", "LLoftGraves$Naming;", true)
def tyX6 : Nat → FieldType := fun k => match k with
  | 0 => .object "LoftGraves$Text"
  | 1 => .object "LoftGraves$Custom"
  | 2 => .object "LoftGraves$Custom"
  | 3 => .object "LoftGraves$Parish"
  | 4 => .object "LoftGraves$Parish"
  | 5 => .object "LoftGraves$Parish"
  | 6 => .object "LoftGraves$Parish"
  | 7 => .boolean
  | 8 => .boolean
  | 9 => .object "LoftGraves$Book"
  | 10 => .object "LoftGraves$Plan"
  | _ => .object "LoftGraves$Naming"
abbrev wsX60 : List Cond := u_ws RX6 TX6 12
theorem nmX6 : ∀ a, a < 12 → ∀ b, b < 12 → a ≠ b → (TX6 a).2.1 ≠ (TX6 b).2.1 := by decide +kernel
theorem tyX6_ok : ∀ k, k < 12 → parseFieldDescriptor (TX6 k).2.2.1 = some (tyX6 k) := by decide +kernel
abbrev cX6_init : ByteArray := prog_1_method_1_code
def yX6_init : MethodName := ⟨RX6, "<init>", "()V"⟩
abbrev cX6_feed : ByteArray := prog_1_method_2_code
def yX6_feed : MethodName := ⟨RX6, "feed", "(IJ)I"⟩
abbrev cX6_parish : ByteArray := prog_1_method_3_code
def yX6_parish : MethodName := ⟨RX6, "parish", "()I"⟩
abbrev cX6_custom : ByteArray := prog_1_method_4_code
def yX6_custom : MethodName := ⟨RX6, "custom", "()I"⟩
abbrev cX6_fault : ByteArray := prog_1_method_5_code
def yX6_fault : MethodName := ⟨RX6, "fault", "()I"⟩
abbrev cX6_told : ByteArray := prog_1_method_6_code
def yX6_told : MethodName := ⟨RX6, "told", "(I)I"⟩
abbrev cX6_yard : ByteArray := prog_1_method_7_code
def yX6_yard : MethodName := ⟨RX6, "yard", "(II)I"⟩
abbrev cX6_dead : ByteArray := prog_1_method_8_code
def yX6_dead : MethodName := ⟨RX6, "dead", "(II)I"⟩
abbrev cX6_order : ByteArray := prog_1_method_9_code
def yX6_order : MethodName := ⟨RX6, "order", "(I)I"⟩
abbrev cX6_letter : ByteArray := prog_1_method_10_code
def yX6_letter : MethodName := ⟨RX6, "letter", "(II)I"⟩
abbrev cX6_gift : ByteArray := prog_1_method_11_code
def yX6_gift : MethodName := ⟨RX6, "gift", "(II)I"⟩
abbrev cX6_knock : ByteArray := prog_1_method_12_code
def yX6_knock : MethodName := ⟨RX6, "knock", "(I)I"⟩
abbrev cX6_day : ByteArray := prog_1_method_13_code
def yX6_day : MethodName := ⟨RX6, "day", "(I)I"⟩
abbrev cX6_rats : ByteArray := prog_1_method_14_code
def yX6_rats : MethodName := ⟨RX6, "rats", "(II)I"⟩
abbrev cX6_lay : ByteArray := prog_1_method_15_code
def yX6_lay : MethodName := ⟨RX6, "lay", "(II)I"⟩
abbrev cX6_spring : ByteArray := prog_1_method_16_code
def yX6_spring : MethodName := ⟨RX6, "spring", "(II)I"⟩
abbrev cX6_useSpades : ByteArray := prog_1_method_17_code
def yX6_useSpades : MethodName := ⟨RX6, "useSpades", "(I)V"⟩
abbrev cX6_offended : ByteArray := prog_1_method_18_code
def yX6_offended : MethodName := ⟨RX6, "offended", "(I)I"⟩
abbrev cX6_quarrels : ByteArray := prog_1_method_19_code
def yX6_quarrels : MethodName := ⟨RX6, "quarrels", "()I"⟩
abbrev cX6_laying : ByteArray := prog_1_method_20_code
def yX6_laying : MethodName := ⟨RX6, "laying", "(I)I"⟩
abbrev cX6_when : ByteArray := prog_1_method_21_code
def yX6_when : MethodName := ⟨RX6, "when", "(II)I"⟩
abbrev cX6_span : ByteArray := prog_1_method_22_code
def yX6_span : MethodName := ⟨RX6, "span", "(IIII)I"⟩
abbrev cX6_bribe : ByteArray := prog_1_method_23_code
def yX6_bribe : MethodName := ⟨RX6, "bribe", "(II)I"⟩
abbrev cX6_leastBribe : ByteArray := prog_1_method_24_code
def yX6_leastBribe : MethodName := ⟨RX6, "leastBribe", "(II)I"⟩
abbrev cX6_label : ByteArray := prog_1_method_25_code
def yX6_label : MethodName := ⟨RX6, "label", "(II)I"⟩
abbrev cX6_mark : ByteArray := prog_1_method_26_code
def yX6_mark : MethodName := ⟨RX6, "mark", "(II)I"⟩
abbrev cX6_fits : ByteArray := prog_1_method_27_code
def yX6_fits : MethodName := ⟨RX6, "fits", "()I"⟩
abbrev cX6_mixed : ByteArray := prog_1_method_28_code
def yX6_mixed : MethodName := ⟨RX6, "mixed", "(I)I"⟩
abbrev cX6_churches : ByteArray := prog_1_method_29_code
def yX6_churches : MethodName := ⟨RX6, "churches", "(I)I"⟩
abbrev cX6_write : ByteArray := prog_1_method_30_code
def yX6_write : MethodName := ⟨RX6, "write", "(II)I"⟩
abbrev cX6_tear : ByteArray := prog_1_method_31_code
def yX6_tear : MethodName := ⟨RX6, "tear", "()I"⟩
abbrev cX6_judge : ByteArray := prog_1_method_32_code
def yX6_judge : MethodName := ⟨RX6, "judge", "()I"⟩
abbrev cX6_seed : ByteArray := prog_1_method_33_code
def yX6_seed : MethodName := ⟨RX6, "seed", "(I)I"⟩
abbrev cX6_keep : ByteArray := prog_1_method_34_code
def yX6_keep : MethodName := ⟨RX6, "keep", "(I)I"⟩
abbrev cX6_goBack : ByteArray := prog_1_method_35_code
def yX6_goBack : MethodName := ⟨RX6, "goBack", "(I)I"⟩
abbrev cX6_at : ByteArray := prog_1_method_36_code
def yX6_at : MethodName := ⟨RX6, "at", "([II)I"⟩
abbrev cX6_put : ByteArray := prog_1_method_37_code
def yX6_put : MethodName := ⟨RX6, "put", "([III)V"⟩
abbrev cX6_copyRow : ByteArray := prog_1_method_38_code
def yX6_copyRow : MethodName := ⟨RX6, "copyRow", "([I[I)V"⟩
abbrev cX6_bit : ByteArray := prog_1_method_39_code
def yX6_bit : MethodName := ⟨RX6, "bit", "(I)I"⟩
abbrev cX6_has : ByteArray := prog_1_method_40_code
def yX6_has : MethodName := ⟨RX6, "has", "(II)Z"⟩
abbrev cX6_allBelow : ByteArray := prog_1_method_41_code
def yX6_allBelow : MethodName := ⟨RX6, "allBelow", "(I)I"⟩
def RX7 : String := "LoftGravesModel"
def TX7 : u_T := fun k => match k with
  | 0 => ("LoftGravesModel", "w", "[I", true)
  | 1 => ("LoftGravesModel", "isKept", "[Z", true)
  | 2 => ("LoftGravesModel", "thaws", "I", false)
  | 3 => ("LoftGravesModel", "shade", "I", false)
  | 4 => ("LoftGravesModel", "frosts", "[I", true)
  | 5 => ("LoftGravesModel", "ranks", "[I", true)
  | 6 => ("LoftGravesModel", "waits", "[I", true)
  | 7 => ("LoftGravesModel", "kins", "[I", true)
  | 8 => ("LoftGravesModel", "many", "[I", true)
  | 9 => ("LoftGravesModel", "clauses", "[I", true)
  | 10 => ("LoftGravesModel", "clauseMany", "I", false)
  | 11 => ("LoftGravesModel", "text", "[I", true)
  | 12 => ("LoftGravesModel", "textSize", "I", false)
  | 13 => ("LoftGravesModel", "at", "I", false)
  | 14 => ("LoftGravesModel", "first", "I", false)
  | 15 => ("LoftGravesModel", "length", "I", false)
  | 16 => ("LoftGravesModel", "faultOf", "I", false)
  | 17 => ("LoftGravesModel", "fault", "I", false)
  | 18 => ("LoftGravesModel", "isSun", "Z", false)
  | 19 => ("LoftGravesModel", "newThaws", "I", false)
  | 20 => ("LoftGravesModel", "newShade", "I", false)
  | 21 => ("LoftGravesModel", "newClauses", "[I", true)
  | 22 => ("LoftGravesModel", "those", "[I", true)
  | 23 => ("LoftGravesModel", "chosen", "[I", true)
  | 24 => ("LoftGravesModel", "bestChosen", "[I", true)
  | 25 => ("LoftGravesModel", "bestMany", "I", false)
  | 26 => ("LoftGravesModel", "ways", "[I", true)
  | 27 => ("LoftGravesModel", "others", "[I", true)
  | 28 => ("LoftGravesModel", "bookDead", "[I", true)
  | 29 => ("LoftGravesModel", "bookYard", "[I", true)
  | _ => ("LoftGravesModel", "written", "I", false)
def tyX7 : Nat → FieldType := fun k => match k with
  | 0 => .array .int
  | 1 => .array .boolean
  | 2 => .int
  | 3 => .int
  | 4 => .array .int
  | 5 => .array .int
  | 6 => .array .int
  | 7 => .array .int
  | 8 => .array .int
  | 9 => .array .int
  | 10 => .int
  | 11 => .array .int
  | 12 => .int
  | 13 => .int
  | 14 => .int
  | 15 => .int
  | 16 => .int
  | 17 => .int
  | 18 => .boolean
  | 19 => .int
  | 20 => .int
  | 21 => .array .int
  | 22 => .array .int
  | 23 => .array .int
  | 24 => .array .int
  | 25 => .int
  | 26 => .array .int
  | 27 => .array .int
  | 28 => .array .int
  | 29 => .array .int
  | _ => .int
abbrev wsX70 : List Cond := u_ws RX7 TX7 31
theorem nmX7 : ∀ a, a < 31 → ∀ b, b < 31 → a ≠ b → (TX7 a).2.1 ≠ (TX7 b).2.1 := by decide +kernel
theorem tyX7_ok : ∀ k, k < 31 → parseFieldDescriptor (TX7 k).2.2.1 = some (tyX7 k) := by decide +kernel
abbrev cX7_init : ByteArray := prog_9_method_1_code
def yX7_init : MethodName := ⟨RX7, "<init>", "()V"⟩
abbrev cX7_in : ByteArray := prog_9_method_3_code
def yX7_in : MethodName := ⟨RX7, "in", "(JJJ)Z"⟩
abbrev cX7_one : ByteArray := prog_9_method_4_code
def yX7_one : MethodName := ⟨RX7, "one", "(Z)I"⟩
abbrev cX7_has : ByteArray := prog_9_method_5_code
def yX7_has : MethodName := ⟨RX7, "has", "(II)Z"⟩
abbrev cX7_ones : ByteArray := prog_9_method_6_code
def yX7_ones : MethodName := ⟨RX7, "ones", "(I)I"⟩
abbrev cX7_size : ByteArray := prog_9_method_7_code
def yX7_size : MethodName := ⟨RX7, "size", "(I)I"⟩
abbrev cX7_feed : ByteArray := prog_9_method_8_code
def yX7_feed : MethodName := ⟨RX7, "feed", "(IJ)I"⟩
abbrev cX7_here : ByteArray := prog_9_method_9_code
def yX7_here : MethodName := ⟨RX7, "here", "()I"⟩
abbrev cX7_want : ByteArray := prog_9_method_10_code
def yX7_want : MethodName := ⟨RX7, "want", "(ZII)Z"⟩
abbrev cX7_takeWord : ByteArray := prog_9_method_11_code
def yX7_takeWord : MethodName := ⟨RX7, "takeWord", "()V"⟩
abbrev cX7_isWord : ByteArray := prog_9_method_12_code
def yX7_isWord : MethodName := ⟨RX7, "isWord", "(IIIIII)Z"⟩
abbrev cX7_takeNumber : ByteArray := prog_9_method_13_code
def yX7_takeNumber : MethodName := ⟨RX7, "takeNumber", "(II)I"⟩
abbrev cX7_takeEnd : ByteArray := prog_9_method_14_code
def yX7_takeEnd : MethodName := ⟨RX7, "takeEnd", "()V"⟩
abbrev cX7_takeClause : ByteArray := prog_9_method_15_code
def yX7_takeClause : MethodName := ⟨RX7, "takeClause", "()V"⟩
abbrev cX7_start : ByteArray := prog_9_method_16_code
def yX7_start : MethodName := ⟨RX7, "start", "()V"⟩
abbrev cX7_parish : ByteArray := prog_9_method_17_code
def yX7_parish : MethodName := ⟨RX7, "parish", "()I"⟩
abbrev cX7_custom : ByteArray := prog_9_method_18_code
def yX7_custom : MethodName := ⟨RX7, "custom", "()I"⟩
abbrev cX7_fault : ByteArray := prog_9_method_19_code
def yX7_fault : MethodName := ⟨RX7, "fault", "()I"⟩
abbrev cX7_isYard : ByteArray := prog_9_method_20_code
def yX7_isYard : MethodName := ⟨RX7, "isYard", "(I)Z"⟩
abbrev cX7_isDead : ByteArray := prog_9_method_21_code
def yX7_isDead : MethodName := ⟨RX7, "isDead", "(I)Z"⟩
abbrev cX7_isInLoft : ByteArray := prog_9_method_22_code
def yX7_isInLoft : MethodName := ⟨RX7, "isInLoft", "(II)Z"⟩
abbrev cX7_loft : ByteArray := prog_9_method_23_code
def yX7_loft : MethodName := ⟨RX7, "loft", "(I)I"⟩
abbrev cX7_laid : ByteArray := prog_9_method_24_code
def yX7_laid : MethodName := ⟨RX7, "laid", "(I)I"⟩
abbrev cX7_who : ByteArray := prog_9_method_25_code
def yX7_who : MethodName := ⟨RX7, "who", "(II)I"⟩
abbrev cX7_valueBy : ByteArray := prog_9_method_26_code
def yX7_valueBy : MethodName := ⟨RX7, "valueBy", "(III)I"⟩
abbrev cX7_isAheadByCustom : ByteArray := prog_9_method_27_code
def yX7_isAheadByCustom : MethodName := ⟨RX7, "isAheadByCustom", "(III)Z"⟩
abbrev cX7_isAhead : ByteArray := prog_9_method_28_code
def yX7_isAhead : MethodName := ⟨RX7, "isAhead", "(III)Z"⟩
abbrev cX7_placeOf : ByteArray := prog_9_method_29_code
def yX7_placeOf : MethodName := ⟨RX7, "placeOf", "(II)I"⟩
abbrev cX7_inOrder : ByteArray := prog_9_method_30_code
def yX7_inOrder : MethodName := ⟨RX7, "inOrder", "(II)I"⟩
abbrev cX7_told : ByteArray := prog_9_method_31_code
def yX7_told : MethodName := ⟨RX7, "told", "(I)I"⟩
abbrev cX7_yard : ByteArray := prog_9_method_32_code
def yX7_yard : MethodName := ⟨RX7, "yard", "(II)I"⟩
abbrev cX7_dead : ByteArray := prog_9_method_33_code
def yX7_dead : MethodName := ⟨RX7, "dead", "(II)I"⟩
abbrev cX7_order : ByteArray := prog_9_method_34_code
def yX7_order : MethodName := ⟨RX7, "order", "(I)I"⟩
abbrev cX7_letter : ByteArray := prog_9_method_35_code
def yX7_letter : MethodName := ⟨RX7, "letter", "(II)I"⟩
abbrev cX7_gift : ByteArray := prog_9_method_36_code
def yX7_gift : MethodName := ⟨RX7, "gift", "(II)I"⟩
abbrev cX7_knock : ByteArray := prog_9_method_37_code
def yX7_knock : MethodName := ⟨RX7, "knock", "(I)I"⟩
abbrev cX7_rate : ByteArray := prog_9_method_38_code
def yX7_rate : MethodName := ⟨RX7, "rate", "(II)I"⟩
abbrev cX7_pass : ByteArray := prog_9_method_39_code
def yX7_pass : MethodName := ⟨RX7, "pass", "(I)V"⟩
abbrev cX7_softYards : ByteArray := prog_9_method_40_code
def yX7_softYards : MethodName := ⟨RX7, "softYards", "()I"⟩
abbrev cX7_day : ByteArray := prog_9_method_41_code
def yX7_day : MethodName := ⟨RX7, "day", "(I)I"⟩
abbrev cX7_draw : ByteArray := prog_9_method_42_code
def yX7_draw : MethodName := ⟨RX7, "draw", "(I)I"⟩
abbrev cX7_gnaw : ByteArray := prog_9_method_43_code
def yX7_gnaw : MethodName := ⟨RX7, "gnaw", "(I)V"⟩
abbrev cX7_rats : ByteArray := prog_9_method_44_code
def yX7_rats : MethodName := ⟨RX7, "rats", "(II)I"⟩
abbrev cX7_layIn : ByteArray := prog_9_method_45_code
def yX7_layIn : MethodName := ⟨RX7, "layIn", "(III)I"⟩
abbrev cX7_lay : ByteArray := prog_9_method_46_code
def yX7_lay : MethodName := ⟨RX7, "lay", "(II)I"⟩
abbrev cX7_leastSoft : ByteArray := prog_9_method_47_code
def yX7_leastSoft : MethodName := ⟨RX7, "leastSoft", "()I"⟩
abbrev cX7_spring : ByteArray := prog_9_method_48_code
def yX7_spring : MethodName := ⟨RX7, "spring", "(II)I"⟩
abbrev cX7_offends : ByteArray := prog_9_method_49_code
def yX7_offends : MethodName := ⟨RX7, "offends", "(III)Z"⟩
abbrev cX7_offended : ByteArray := prog_9_method_50_code
def yX7_offended : MethodName := ⟨RX7, "offended", "(I)I"⟩
abbrev cX7_quarrelsIn : ByteArray := prog_9_method_51_code
def yX7_quarrelsIn : MethodName := ⟨RX7, "quarrelsIn", "(I)I"⟩
abbrev cX7_quarrels : ByteArray := prog_9_method_52_code
def yX7_quarrels : MethodName := ⟨RX7, "quarrels", "()I"⟩
abbrev cX7_copy : ByteArray := prog_9_method_53_code
def yX7_copy : MethodName := ⟨RX7, "copy", "(II)V"⟩
abbrev cX7_isFree : ByteArray := prog_9_method_54_code
def yX7_isFree : MethodName := ⟨RX7, "isFree", "(I)Z"⟩
abbrev cX7_goOn : ByteArray := prog_9_method_55_code
def yX7_goOn : MethodName := ⟨RX7, "goOn", "(I)Z"⟩
abbrev cX7_isUnlike : ByteArray := prog_9_method_56_code
def yX7_isUnlike : MethodName := ⟨RX7, "isUnlike", "(I)Z"⟩
abbrev cX7_fill : ByteArray := prog_9_method_57_code
def yX7_fill : MethodName := ⟨RX7, "fill", "(II)Z"⟩
abbrev cX7_findLaying : ByteArray := prog_9_method_58_code
def yX7_findLaying : MethodName := ⟨RX7, "findLaying", "()Z"⟩
abbrev cX7_laying : ByteArray := prog_9_method_59_code
def yX7_laying : MethodName := ⟨RX7, "laying", "(I)I"⟩
abbrev cX7_daysTill : ByteArray := prog_9_method_60_code
def yX7_daysTill : MethodName := ⟨RX7, "daysTill", "(II)I"⟩
abbrev cX7_whenSoft : ByteArray := prog_9_method_61_code
def yX7_whenSoft : MethodName := ⟨RX7, "whenSoft", "(II)I"⟩
abbrev cX7_when : ByteArray := prog_9_method_62_code
def yX7_when : MethodName := ⟨RX7, "when", "(II)I"⟩
abbrev cX7_span : ByteArray := prog_9_method_63_code
def yX7_span : MethodName := ⟨RX7, "span", "(IIII)I"⟩
abbrev cX7_bribe : ByteArray := prog_9_method_64_code
def yX7_bribe : MethodName := ⟨RX7, "bribe", "(II)I"⟩
abbrev cX7_label : ByteArray := prog_9_method_65_code
def yX7_label : MethodName := ⟨RX7, "label", "(II)I"⟩
abbrev cX7_mark : ByteArray := prog_9_method_66_code
def yX7_mark : MethodName := ⟨RX7, "mark", "(II)I"⟩
abbrev cX7_ahead : ByteArray := prog_9_method_67_code
def yX7_ahead : MethodName := ⟨RX7, "ahead", "(I)I"⟩
abbrev cX7_findNames : ByteArray := prog_9_method_68_code
def yX7_findNames : MethodName := ⟨RX7, "findNames", "()V"⟩
abbrev cX7_fits : ByteArray := prog_9_method_69_code
def yX7_fits : MethodName := ⟨RX7, "fits", "()I"⟩
abbrev cX7_mixed : ByteArray := prog_9_method_70_code
def yX7_mixed : MethodName := ⟨RX7, "mixed", "(I)I"⟩
abbrev cX7_churches : ByteArray := prog_9_method_71_code
def yX7_churches : MethodName := ⟨RX7, "churches", "(I)I"⟩
abbrev cX7_write : ByteArray := prog_9_method_72_code
def yX7_write : MethodName := ⟨RX7, "write", "(II)I"⟩
abbrev cX7_tear : ByteArray := prog_9_method_73_code
def yX7_tear : MethodName := ⟨RX7, "tear", "()I"⟩
abbrev cX7_judge : ByteArray := prog_9_method_74_code
def yX7_judge : MethodName := ⟨RX7, "judge", "()I"⟩
abbrev cX7_seed : ByteArray := prog_9_method_75_code
def yX7_seed : MethodName := ⟨RX7, "seed", "(I)I"⟩
abbrev cX7_keep : ByteArray := prog_9_method_76_code
def yX7_keep : MethodName := ⟨RX7, "keep", "(I)I"⟩
abbrev cX7_goBack : ByteArray := prog_9_method_77_code
def yX7_goBack : MethodName := ⟨RX7, "goBack", "(I)I"⟩
def RJ6 : String := "java/lang/Integer"
def TJ6 : u_T := fun k => match k with
  | _ => ("", "", "", false)
def tyJ6 : Nat → FieldType := fun k => match k with
  | _ => .int
abbrev wsJ60 : List Cond := u_ws RJ6 TJ6 0
theorem nmJ6 : ∀ a, a < 0 → ∀ b, b < 0 → a ≠ b → (TJ6 a).2.1 ≠ (TJ6 b).2.1 := by decide +kernel
theorem tyJ6_ok : ∀ k, k < 0 → parseFieldDescriptor (TJ6 k).2.2.1 = some (tyJ6 k) := by decide +kernel
abbrev cJ6_numberOfTrailingZeros_0f7a4 : ByteArray := prog_10_method_48_code
def yJ6_numberOfTrailingZeros_0f7a4 : MethodName := ⟨RJ6, "numberOfTrailingZeros", "(I)I"⟩
abbrev cJ6_bitCount_0f7a4 : ByteArray := prog_10_method_49_code
def yJ6_bitCount_0f7a4 : MethodName := ⟨RJ6, "bitCount", "(I)I"⟩
def RJ9 : String := "java/lang/Math"
def TJ9 : u_T := fun k => match k with
  | _ => ("", "", "", false)
def tyJ9 : Nat → FieldType := fun k => match k with
  | _ => .int
abbrev wsJ90 : List Cond := u_ws RJ9 TJ9 0
theorem nmJ9 : ∀ a, a < 0 → ∀ b, b < 0 → a ≠ b → (TJ9 a).2.1 ≠ (TJ9 b).2.1 := by decide +kernel
theorem tyJ9_ok : ∀ k, k < 0 → parseFieldDescriptor (TJ9 k).2.2.1 = some (tyJ9 k) := by decide +kernel
abbrev cJ9_abs_0f7a4 : ByteArray := prog_11_method_59_code
def yJ9_abs_0f7a4 : MethodName := ⟨RJ9, "abs", "(I)I"⟩
abbrev cJ9_max_7cf53 : ByteArray := prog_11_method_65_code
def yJ9_max_7cf53 : MethodName := ⟨RJ9, "max", "(II)I"⟩
abbrev cJ9_min_7cf53 : ByteArray := prog_11_method_69_code
def yJ9_min_7cf53 : MethodName := ⟨RJ9, "min", "(II)I"⟩
def RJ0 : String := "java/lang/String"
def TJ0 : u_T := fun k => match k with
  | _ => ("", "", "", false)
def tyJ0 : Nat → FieldType := fun k => match k with
  | _ => .int
abbrev wsJ00 : List Cond := u_ws RJ0 TJ0 0
theorem nmJ0 : ∀ a, a < 0 → ∀ b, b < 0 → a ≠ b → (TJ0 a).2.1 ≠ (TJ0 b).2.1 := by decide +kernel
theorem tyJ0_ok : ∀ k, k < 0 → parseFieldDescriptor (TJ0 k).2.2.1 = some (tyJ0 k) := by decide +kernel
abbrev cJ0_length_8abf5 : ByteArray := prog_12_method_54_code
def yJ0_length_8abf5 : MethodName := ⟨RJ0, "length", "()I"⟩
abbrev cJ0_charAt_5068e : ByteArray := prog_12_method_56_code
def yJ0_charAt_5068e : MethodName := ⟨RJ0, "charAt", "(I)C"⟩
abbrev cJ0_coder_7d493 : ByteArray := prog_12_method_152_code
def yJ0_coder_7d493 : MethodName := ⟨RJ0, "coder", "()B"⟩
abbrev cJ0_isLatin1_aae02 : ByteArray := prog_12_method_154_code
def yJ0_isLatin1_aae02 : MethodName := ⟨RJ0, "isLatin1", "()Z"⟩
abbrev cJ0_checkIndex_df160 : ByteArray := prog_12_method_155_code
def yJ0_checkIndex_df160 : MethodName := ⟨RJ0, "checkIndex", "(II)V"⟩
def RJ1 : String := "java/lang/StringLatin1"
def TJ1 : u_T := fun k => match k with
  | _ => ("", "", "", false)
def tyJ1 : Nat → FieldType := fun k => match k with
  | _ => .int
abbrev wsJ10 : List Cond := u_ws RJ1 TJ1 0
theorem nmJ1 : ∀ a, a < 0 → ∀ b, b < 0 → a ≠ b → (TJ1 a).2.1 ≠ (TJ1 b).2.1 := by decide +kernel
theorem tyJ1_ok : ∀ k, k < 0 → parseFieldDescriptor (TJ1 k).2.2.1 = some (tyJ1 k) := by decide +kernel
abbrev cJ1_charAt_3b067 : ByteArray := prog_13_method_2_code
def yJ1_charAt_3b067 : MethodName := ⟨RJ1, "charAt", "([BI)C"⟩
def RJ2 : String := "java/lang/StringUTF16"
def TJ2 : u_T := fun k => match k with
  | _ => ("", "", "", false)
def tyJ2 : Nat → FieldType := fun k => match k with
  | _ => .int
abbrev wsJ20 : List Cond := u_ws RJ2 TJ2 0
theorem nmJ2 : ∀ a, a < 0 → ∀ b, b < 0 → a ≠ b → (TJ2 a).2.1 ≠ (TJ2 b).2.1 := by decide +kernel
theorem tyJ2_ok : ∀ k, k < 0 → parseFieldDescriptor (TJ2 k).2.2.1 = some (tyJ2 k) := by decide +kernel
abbrev cJ2_getChar_3b067 : ByteArray := prog_14_method_5_code
def yJ2_getChar_3b067 : MethodName := ⟨RJ2, "getChar", "([BI)C"⟩
abbrev cJ2_length_9d52b : ByteArray := prog_14_method_6_code
def yJ2_length_9d52b : MethodName := ⟨RJ2, "length", "([B)I"⟩
abbrev cJ2_charAt_3b067 : ByteArray := prog_14_method_83_code
def yJ2_charAt_3b067 : MethodName := ⟨RJ2, "charAt", "([BI)C"⟩
abbrev cJ2_checkIndex_2214a : ByteArray := prog_14_method_91_code
def yJ2_checkIndex_2214a : MethodName := ⟨RJ2, "checkIndex", "(I[B)V"⟩
def RJ3 : String := "jdk/internal/util/Preconditions"
def TJ3 : u_T := fun k => match k with
  | _ => ("", "", "", false)
def tyJ3 : Nat → FieldType := fun k => match k with
  | _ => .int
abbrev wsJ30 : List Cond := u_ws RJ3 TJ3 0
theorem nmJ3 : ∀ a, a < 0 → ∀ b, b < 0 → a ≠ b → (TJ3 a).2.1 ≠ (TJ3 b).2.1 := by decide +kernel
theorem tyJ3_ok : ∀ k, k < 0 → parseFieldDescriptor (TJ3 k).2.2.1 = some (tyJ3 k) := by decide +kernel
abbrev cJ3_checkIndex_8e157 : ByteArray := prog_15_method_11_code
def yJ3_checkIndex_8e157 : MethodName := ⟨RJ3, "checkIndex", "(IILjava/util/function/BiFunction;)I"⟩
def RL : String := "LoftGravesLaw"
abbrev cL_law : ByteArray := code
def yL_law : MethodName := ⟨RL, "law", "([I)Z"⟩
abbrev vwCl : List vw_C := [(RX0, TX0, 3), (RX1, TX1, 2), (RX2, TX2, 1), (RX3, TX3, 16), (RX4, TX4, 6), (RX5, TX5, 5), (RX6, TX6, 12), (RX7, TX7, 31)]
/-! links between nest mates, out of the tables -/
theorem zmem_of {big ws : List Cond} (ps : List Nat) (h : ws = ps.filterMap (fun i => big[i]?)) : ∀ w ∈ ws, w ∈ big := by
  intro w hw
  rw [h] at hw
  obtain ⟨i, -, hi⟩ := List.mem_filterMap.mp hw
  exact List.mem_of_getElem? hi
def zNW_1 : List Cond := [Cond.methodLinkNest RX6 9 yX5_init "LoftGraves", Cond.fieldLinkNest RX6 78 "LoftGraves$Text" "length" "I" "LoftGraves", Cond.fieldLinkNest RX3 78 "LoftGraves$Text" "place" "I" "LoftGraves", Cond.fieldLinkNest RX1 44 "LoftGraves$Text" "place" "I" "LoftGraves", Cond.fieldLinkNest RX6 90 "LoftGraves$Text" "flaw" "I" "LoftGraves", Cond.fieldLinkNest RX6 111 "LoftGraves$Text" "flawPlace" "I" "LoftGraves", Cond.methodLinkNest RX6 18 yX1_init "LoftGraves", Cond.fieldLinkNest RX3 149 "LoftGraves$Custom" "clauses" "[I" "LoftGraves", Cond.fieldLinkNest RX6 110 "LoftGraves$Custom" "count" "I" "LoftGraves", Cond.fieldLinkNest RX3 142 "LoftGraves$Custom" "count" "I" "LoftGraves", Cond.methodLinkNest RX6 28 yX3_init "LoftGraves", Cond.fieldLinkNest RX6 114 "LoftGraves$Parish" "yards" "I" "LoftGraves", Cond.fieldLinkNest RX2 15 "LoftGraves$Parish" "dead" "I" "LoftGraves", Cond.fieldLinkNest RX6 103 "LoftGraves$Parish" "dead" "I" "LoftGraves", Cond.fieldLinkNest RX6 117 "LoftGraves$Parish" "sun" "I" "LoftGraves", Cond.fieldLinkNest RX6 120 "LoftGraves$Parish" "shade" "I" "LoftGraves", Cond.fieldLinkNest RX6 138 "LoftGraves$Parish" "frost" "[I" "LoftGraves", Cond.fieldLinkNest RX6 153 "LoftGraves$Parish" "rank" "[I" "LoftGraves", Cond.fieldLinkNest RX6 156 "LoftGraves$Parish" "waited" "[I" "LoftGraves", Cond.fieldLinkNest RX4 57 "LoftGraves$Parish" "kin" "[I" "LoftGraves", Cond.fieldLinkNest RX6 159 "LoftGraves$Parish" "kin" "[I" "LoftGraves", Cond.fieldLinkNest RX6 162 "LoftGraves$Parish" "gifts" "[I" "LoftGraves", Cond.fieldLinkNest RX6 165 "LoftGraves$Parish" "boards" "[I" "LoftGraves", Cond.fieldLinkNest RX4 42 "LoftGraves$Parish" "yardOf" "[I" "LoftGraves", Cond.fieldLinkNest RX6 168 "LoftGraves$Parish" "yardOf" "[I" "LoftGraves", Cond.fieldLinkNest RX2 58 "LoftGraves$Parish" "labels" "[I" "LoftGraves", Cond.fieldLinkNest RX6 178 "LoftGraves$Parish" "labels" "[I" "LoftGraves", Cond.fieldLinkNest RX2 29 "LoftGraves$Parish" "marks" "[I" "LoftGraves", Cond.fieldLinkNest RX6 181 "LoftGraves$Parish" "marks" "[I" "LoftGraves", Cond.fieldLinkNest RX6 171 "LoftGraves$Parish" "knocked" "I" "LoftGraves", Cond.fieldLinkNest RX6 130 "LoftGraves$Parish" "hours" "I" "LoftGraves", Cond.fieldLinkNest RX6 93 "LoftGraves$Parish" "chance" "I" "LoftGraves", Cond.methodLinkNest RX6 51 yX0_init "LoftGraves", Cond.fieldLinkNest RX6 295 "LoftGraves$Book" "who" "[I" "LoftGraves", Cond.fieldLinkNest RX6 298 "LoftGraves$Book" "where" "[I" "LoftGraves", Cond.fieldLinkNest RX6 100 "LoftGraves$Book" "count" "I" "LoftGraves", Cond.methodLinkNest RX6 58 yX4_init "LoftGraves", Cond.fieldLinkNest RX6 261 "LoftGraves$Plan" "best" "[I" "LoftGraves", Cond.fieldLinkNest RX6 258 "LoftGraves$Plan" "fewest" "I" "LoftGraves", Cond.fieldLinkNest RX6 255 "LoftGraves$Plan" "found" "Z" "LoftGraves", Cond.methodLinkNest RX6 65 yX2_init "LoftGraves", Cond.methodLinkNest RX6 70 yX1_add "LoftGraves", Cond.methodLinkNest RX1 19 yX6_put "LoftGraves", Cond.methodLinkNest RX6 74 yX3_settle "LoftGraves", Cond.methodLinkNest RX3 110 yX6_put "LoftGraves", Cond.methodLinkNest RX3 114 yX6_allBelow "LoftGraves"]
theorem zNW_in_1 : ∀ w ∈ zNW_1, w ∈ tables_1_1 := zmem_of [25, 31, 33, 34, 36, 38, 53, 58, 60, 61, 70, 75, 77, 78, 80, 82, 84, 86, 88, 90, 91, 93, 95, 97, 98, 100, 101, 103, 104, 106, 108, 110, 146, 151, 153, 155, 165, 173, 175, 177, 193, 201, 205, 208, 212, 213] (by decide +kernel)
def zNW_2 : List Cond := [Cond.methodLinkNest RX6 83 yX5_append "LoftGraves", Cond.methodLinkNest RX6 86 yX3_readFrom "LoftGraves", Cond.methodLinkNest RX3 65 yX5_begin "LoftGraves", Cond.methodLinkNest RX3 70 yX5_goesOn "LoftGraves", Cond.methodLinkNest RX3 82 yX5_takeWord "LoftGraves", Cond.methodLinkNest RX3 99 yX5_blame "LoftGraves", Cond.methodLinkNest RX3 103 yX5_takeNumber "LoftGraves", Cond.methodLinkNest RX3 107 yX5_takeStop "LoftGraves", Cond.methodLinkNest RX6 96 yX3_copyFrom "LoftGraves", Cond.methodLinkNest RX3 61 yX6_copyRow "LoftGraves", Cond.methodLinkNest RX6 106 yX1_readFrom "LoftGraves", Cond.methodLinkNest RX1 31 yX5_begin "LoftGraves", Cond.methodLinkNest RX1 36 yX5_goesOn "LoftGraves", Cond.methodLinkNest RX1 49 yX5_takeWord "LoftGraves", Cond.methodLinkNest RX1 59 yX5_blame "LoftGraves", Cond.methodLinkNest RX1 23 yX6_at "LoftGraves", Cond.methodLinkNest RX1 71 yX5_takeStop "LoftGraves", Cond.methodLinkNest RX6 107 yX1_copyFrom "LoftGraves", Cond.methodLinkNest RX1 27 yX6_copyRow "LoftGraves", Cond.methodLinkNest RX6 123 yX3_waiting "LoftGraves", Cond.methodLinkNest RX3 118 yX6_at "LoftGraves", Cond.methodLinkNest RX3 122 yX6_bit "LoftGraves", Cond.methodLinkNest RX6 127 yX3_laid "LoftGraves", Cond.methodLinkNest RX6 133 yX3_hasYard "LoftGraves", Cond.methodLinkNest RX6 146 yX3_whoLiesIn "LoftGraves", Cond.methodLinkNest RX6 150 yX3_hasDead "LoftGraves", Cond.methodLinkNest RX6 184 yX3_placeAmong "LoftGraves"]
theorem zNW_in_2 : ∀ w ∈ zNW_2, w ∈ tables_1_2 := zmem_of [22, 30, 34, 38, 55, 111, 115, 120, 134, 138, 149, 153, 154, 160, 164, 169, 171, 172, 176, 185, 193, 194, 195, 200, 205, 213, 224] (by decide +kernel)
def zNW_3 : List Cond := [Cond.methodLinkNest RX3 138 yX6_has "LoftGraves", Cond.methodLinkNest RX6 202 yX3_passDay "LoftGraves", Cond.methodLinkNest RX6 205 yX3_soft "LoftGraves", Cond.methodLinkNest RX6 208 yX3_passNight "LoftGraves", Cond.methodLinkNest RX6 211 yX3_boardless "LoftGraves", Cond.methodLinkNest RX6 214 yX3_taken "LoftGraves", Cond.methodLinkNest RX6 217 yX3_layDown "LoftGraves", Cond.methodLinkNest RX6 220 yX3_draw "LoftGraves", Cond.methodLinkNest RX6 231 yX3_firstAmong "LoftGraves", Cond.methodLinkNest RX6 235 yX3_softAndFree "LoftGraves", Cond.methodLinkNest RX6 241 yX4_begin "LoftGraves", Cond.methodLinkNest RX4 32 yX6_put "LoftGraves", Cond.methodLinkNest RX4 36 yX3_hasDead "LoftGraves", Cond.methodLinkNest RX4 45 yX6_at "LoftGraves", Cond.methodLinkNest RX4 49 yX3_claim "LoftGraves", Cond.methodLinkNest RX4 53 yX6_bit "LoftGraves", Cond.methodLinkNest RX6 245 yX4_whoOffends "LoftGraves", Cond.methodLinkNest RX4 60 yX6_has "LoftGraves", Cond.methodLinkNest RX6 248 yX4_quarrelsNow "LoftGraves", Cond.methodLinkNest RX6 251 yX4_find "LoftGraves", Cond.methodLinkNest RX4 92 yX6_copyRow "LoftGraves", Cond.methodLinkNest RX6 264 yX3_daysUntilSoft "LoftGraves", Cond.methodLinkNest RX6 273 yX2_countWays "LoftGraves", Cond.methodLinkNest RX2 21 yX6_allBelow "LoftGraves", Cond.methodLinkNest RX2 25 yX6_put "LoftGraves", Cond.methodLinkNest RX2 37 yX6_at "LoftGraves", Cond.methodLinkNest RX2 41 yX6_has "LoftGraves", Cond.methodLinkNest RX2 45 yX6_bit "LoftGraves", Cond.methodLinkNest RX6 277 yX2_weigh "LoftGraves", Cond.methodLinkNest RX6 280 yX2_fewestChanges "LoftGraves", Cond.methodLinkNest RX6 283 yX2_nameOf "LoftGraves", Cond.methodLinkNest RX6 287 yX3_ranksOf "LoftGraves"]
theorem zNW_in_3 : ∀ w ∈ zNW_3, w ∈ tables_1_3 := zmem_of [4, 25, 42, 50, 62, 70, 71, 79, 84, 89, 108, 112, 113, 114, 115, 116, 117, 125, 130, 149, 158, 163, 196, 200, 201, 203, 204, 205, 210, 219, 223, 231] (by decide +kernel)
def zNW_4 : List Cond := [Cond.methodLinkNest RX6 293 yX0_add "LoftGraves", Cond.methodLinkNest RX0 22 yX6_put "LoftGraves"]
theorem zNW_in_4 : ∀ w ∈ zNW_4, w ∈ tables_1_4 := zmem_of [0, 4] (by decide +kernel)
def zNW_5 : List Cond := []
theorem zNW_in_5 : ∀ w ∈ zNW_5, w ∈ tables_1_5 := zmem_of [] (by decide +kernel)
def zNW : List Cond := zNW_1 ++ (zNW_2 ++ (zNW_3 ++ (zNW_4 ++ (zNW_5))))
theorem zNW_in : ∀ w ∈ zNW, w ∈ lw_tbl := by
  intro w h
  refine List.mem_append_right _ ?_
  rcases List.mem_append.mp h with h | h
  · exact List.mem_append_left _ (zNW_in_1 w h)
  refine List.mem_append_right _ ?_
  rcases List.mem_append.mp h with h | h
  · exact List.mem_append_left _ (zNW_in_2 w h)
  refine List.mem_append_right _ ?_
  rcases List.mem_append.mp h with h | h
  · exact List.mem_append_left _ (zNW_in_3 w h)
  refine List.mem_append_right _ ?_
  rcases List.mem_append.mp h with h | h
  · exact List.mem_append_left _ (zNW_in_4 w h)
  exact List.mem_append_right _ (zNW_in_5 w h)
def zisNest : Cond → Bool
  | .fieldLinkNest _ _ _ _ _ _ => true
  | .methodLinkNest _ _ _ _ => true
  | _ => false
theorem zNW_nest : zNW.all zisNest = true := by decide +kernel
/-- the words that a contract may rest on -/
def zT : List Cond := lw_tbl.filter goodWord
theorem zT_sub : ∀ w ∈ zT, w ∈ lw_tbl := fun _ h => (List.mem_filter.mp h).1
theorem zgood {w : Cond} (h : w ∈ zT) : goodWord w = true := (List.mem_filter.mp h).2
theorem ztp {i : Nat} {w : Cond} (h : (k2_sels lw_privs)[i]? = some w) (hg : goodWord w = true) : w ∈ zT := List.mem_filter.mpr ⟨List.mem_append_left _ (List.mem_of_getElem? h), hg⟩
theorem zt1 {i : Nat} {w : Cond} (h : tables_1_1[i]? = some w) (hg : goodWord w = true) : w ∈ zT := List.mem_filter.mpr ⟨List.mem_append_right _ (List.mem_append_left _ (List.mem_of_getElem? h)), hg⟩
theorem zt2 {i : Nat} {w : Cond} (h : tables_1_2[i]? = some w) (hg : goodWord w = true) : w ∈ zT := List.mem_filter.mpr ⟨List.mem_append_right _ (List.mem_append_right _ (List.mem_append_left _ (List.mem_of_getElem? h))), hg⟩
theorem zt3 {i : Nat} {w : Cond} (h : tables_1_3[i]? = some w) (hg : goodWord w = true) : w ∈ zT := List.mem_filter.mpr ⟨List.mem_append_right _ (List.mem_append_right _ (List.mem_append_right _ (List.mem_append_left _ (List.mem_of_getElem? h)))), hg⟩
theorem zt4 {i : Nat} {w : Cond} (h : tables_1_4[i]? = some w) (hg : goodWord w = true) : w ∈ zT := List.mem_filter.mpr ⟨List.mem_append_right _ (List.mem_append_right _ (List.mem_append_right _ (List.mem_append_right _ (List.mem_append_left _ (List.mem_of_getElem? h))))), hg⟩
theorem zt5 {i : Nat} {w : Cond} (h : tables_1_5[i]? = some w) (hg : goodWord w = true) : w ∈ zT := List.mem_filter.mpr ⟨List.mem_append_right _ (List.mem_append_right _ (List.mem_append_right _ (List.mem_append_right _ (List.mem_append_right _ (List.mem_of_getElem? h))))), hg⟩
end
section
/-! THE MACHINE IN NUMBERED CELLS. A world is a list of cells; a reference is the cell's place in the list (places from zE0 on: cells of the start that nobody writes). Z: from this frame the method ends as the contract says. -/
abbrev zE : Type := (FieldType × vp_A) ⊕ (Nat × List Value)
abbrev zH : Type := List zE
abbrev zL : Type := List (Nat × Value)
/-- launch, classes' numbers, array classes' numbers, the first address, the addresses of the start's cells -/
abbrev zG : Type := Launch × va_G × (FieldType → ClassId) × Nat × (Nat → Nat)
def zE0 : Nat := 1000000
def zkap (g : zG) (ty : FieldType) : ClassId := g.2.2.1 ty
def zbase (g : zG) : Nat := g.2.2.2.1
def za (g : zG) (k : Nat) : Nat := if k < zE0 then g.2.2.2.1 + k else g.2.2.2.2 k
def zv (g : zG) : Value → Value
  | .ref k => .ref (za g k)
  | v => v
theorem zv_int (g : zG) (x : Int32) : zv g (.int x) = .int x := rfl
theorem zv_long (g : zG) (x : Int64) : zv g (.long x) = .long x := rfl
theorem zv_null (g : zG) : zv g .null = .null := rfl
theorem zv_ref (g : zG) (k : Nat) : zv g (.ref k) = .ref (za g k) := rfl
theorem zv_cat (g : zG) (v : Value) : (zv g v).category = v.category := by cases v <;> rfl
def zc (g : zG) : zE → va_E
  | .inl q => .inl (zkap g q.1, q.2)
  | .inr o => .inr (o.1, o.2.map (zv g))
def zw (g : zG) (h : zH) : va_W := h.mapIdx (fun k e => (za g k, zc g e))
theorem zw_get {g : zG} {h : zH} {k : Nat} {e : zE} (hk : h[k]? = some e) : (zw g h)[k]? = some (za g k, zc g e) := by
  simp [zw, List.getElem?_mapIdx, hk]
theorem zw_get' {g : zG} {h : zH} {k : Nat} {q : Nat × va_E} (hk : (zw g h)[k]? = some q) : ∃ e, h[k]? = some e ∧ q = (za g k, zc g e) := by
  simp only [zw, List.getElem?_mapIdx] at hk
  cases hh : h[k]? with
  | none => rw [hh] at hk; cases hk
  | some e => rw [hh] at hk; exact ⟨e, rfl, (Option.some.inj hk).symm⟩
theorem zw_set (g : zG) (h : zH) (k : Nat) (e : zE) : (zw g h).set k (za g k, zc g e) = zw g (h.set k e) := by
  apply List.ext_getElem?
  intro i
  simp only [zw, List.getElem?_mapIdx, List.getElem?_set, List.length_mapIdx]
  by_cases hi : k = i
  · subst hi
    by_cases hl : k < h.length
    · simp [hl]
    · simp [hl]
  · simp [hi]
theorem zw_push (g : zG) (h : zH) (e : zE) : zw g h ++ [(za g h.length, zc g e)] = zw g (h ++ [e]) := by
  simp [zw, List.mapIdx_append]
/-- the free cells: those from the first address on -/
def zA (g : zG) : Nat → Prop := fun q => zbase g ≤ q
theorem za_lt {g : zG} {k : Nat} (h : k < zE0) : za g k = zbase g + k := by simp [za, h, zbase]
theorem zD {g : zG} {h : zH} (hl : h.length ≤ zE0) : va_D (zA g) (zw g h) := by
  have key : ∀ (k : Nat) (q : Nat × va_E), (zw g h)[k]? = some q → q.1 = zbase g + k := by
    intro k q hk
    obtain ⟨e, he, rfl⟩ := zw_get' hk
    have hlt := (List.getElem?_eq_some_iff.mp he).1
    exact za_lt (Nat.lt_of_lt_of_le hlt hl)
  refine ⟨fun i j p q hi hj hpq => ?_, fun k q hk => ?_⟩
  · have h1 := key i p hi
    have h2 := key j q hj
    omega
  · have h1 := key k q hk
    show zbase g ≤ q.1
    omega
/-! what the start holds: String constants, two statics of the JDK -/
def zstrs : List (String × Nat × String × List Int32) := [(RX3, 81, "sun", [115, 117, 110]), (RX3, 90, "yard", [121, 97, 114, 100]), (RX3, 95, "dead", [100, 101, 97, 100]), (RX1, 47, "rank", [114, 97, 110, 107]), (RX1, 53, "waits", [119, 97, 105, 116, 115]), (RX1, 55, "gifts", [103, 105, 102, 116, 115]), (RX1, 57, "kin", [107, 105, 110])]
def zbyt : List (List Int32) := zstrs.map (fun q => q.2.2.2)
def zlen : List Nat := zbyt.map List.length
/-- the places of the start's cells: String i at zE0 + i, its bytes at zE0 + 10 + i, what SIOOBE_FORMATTER holds at zE0 + 20 -/
def zX (g : zG) (s : State) : Prop :=
  va_Z "java/lang/String" "COMPACT_STRINGS" "Z" (.int 1) (zA g) s s.heap ∧
  (va_Z "jdk/internal/util/Preconditions" "SIOOBE_FORMATTER" "Ljava/util/function/BiFunction;" .null (zA g) s s.heap ∨ va_Z "jdk/internal/util/Preconditions" "SIOOBE_FORMATTER" "Ljava/util/function/BiFunction;" (.ref (za g (zE0 + 20))) (zA g) s s.heap) ∧
  vk_S 7 zlen zbyt (fun i => za g (zE0 + i)) (fun i => za g (zE0 + 10 + i)) (zA g) s s.heap ∧
  ∀ (i : Nat) (q : String × Nat × String × List Int32), zstrs[i]? = some q → vk_R q.1 q.2.1 q.2.2.1 (za g (zE0 + i)) s
theorem zX_moved {g : zG} {u U : State} (hW : u.WarmedH U.vm) (hS : va_S (zA g) u.heap U.heap []) (h : zX g u) : zX g U := by
  obtain ⟨h1, h2, h3, h4⟩ := h
  have hq : ∀ a : Nat, a < u.heap.size → ¬ zA g a → U.heap[a]? = u.heap[a]? := hS.2.1
  refine ⟨(va_Z.moved hW.alike h1).kept hq, ?_, (vk_S.moved hW.alike h3).kept hq, fun i q hi => (h4 i q hi).warm hW⟩
  rcases h2 with h2 | h2
  · exact Or.inl ((va_Z.moved hW.alike h2).kept hq)
  · exact Or.inr ((va_Z.moved hW.alike h2).kept hq)
theorem zX_same {g : zG} {u U : State} (hv : u.vm = U.vm) (hh : u.heap = U.heap) (h : zX g u) : zX g U := by
  obtain ⟨h1, h2, h3, h4⟩ := h
  have hal : u.vm.Alike U.vm := by rw [hv]; exact Vm.Alike.refl _
  refine ⟨by rw [← hh]; exact va_Z.moved hal h1, ?_, by rw [← hh]; exact vk_S.moved hal h3, fun i q hi => (h4 i q hi).same hv.symm⟩
  rcases h2 with h2 | h2
  · exact Or.inl (by rw [← hh]; exact va_Z.moved hal h2)
  · exact Or.inr (by rw [← hh]; exact va_Z.moved hal h2)
theorem zNW_moved {u U : State} (hW : u.WarmedH U.vm) {w : Cond} (hw : w ∈ zNW) (h : va_Nw w u) : va_Nw w U := by
  have hn := List.all_eq_true.mp zNW_nest w hw
  cases w with
  | fieldLinkNest a i b n d hh => exact va_Nw.warmF hW h
  | methodLinkNest a i x hh => exact va_Nw.warmM hW h
  | _ => exact absurd hn (by simp [zisNest])
theorem zNW_same {u U : State} (hv : u.vm = U.vm) {w : Cond} (hw : w ∈ zNW) (h : va_Nw w u) : va_Nw w U := by
  have hn := List.all_eq_true.mp zNW_nest w hw
  cases w with
  | fieldLinkNest a i b n d hh => exact va_Nw.same rfl hv h
  | methodLinkNest a i x hh => exact va_Nw.same rfl hv h
  | _ => exact absurd hn (by simp [zisNest])
/-- what is known of the machine's tables, at any state of a run -/
def zK (g : zG) (s : State) : Prop :=
  va_K g.2.1 vwCl [] s ∧ (∀ (ty : FieldType) (cA : ClassId), s.vm.findClass ("[" ++ ty.toString) = some cA → cA = zkap g ty) ∧ (∀ w ∈ zNW, va_Nw w s) ∧ zX g s
/-- the world, on the heap -/
def zO (g : zG) (s : State) (h : zH) (H : Heap) : Prop :=
  va_P g.2.1 vwCl (zw g h) H ∧ H.size = zbase g + h.length ∧ h.length ≤ zE0 ∧ (∀ (k : Nat) (ty : FieldType) (x : vp_A), h[k]? = some (.inl (ty, x)) → ArrOfT s (zkap g ty) ty ∧ va_RA s (zkap g ty) ty)
theorem zK.moved {g : zG} {u U : State} (hW : u.WarmedH U.vm) (hS : va_S (zA g) u.heap U.heap []) (h : zK g u) : zK g U := by
  obtain ⟨h1, h2, h3, h4⟩ := h
  refine ⟨va_K.moved hW.alike h1, fun ty cA q => h2 ty cA (by rw [← hW.alike.findClass]; exact q), fun w hw => zNW_moved hW hw (h3 w hw), zX_moved hW hS h4⟩
theorem zK.same {g : zG} {u U : State} (hv : u.vm = U.vm) (hh : u.heap = U.heap) (h : zK g u) : zK g U := by
  obtain ⟨h1, h2, h3, h4⟩ := h
  refine ⟨va_K.moved (by rw [hv]; exact Vm.Alike.refl _) h1, fun ty cA q => h2 ty cA (by rw [hv]; exact q), fun w hw => zNW_same hv hw (h3 w hw), zX_same hv hh h4⟩
theorem zO.moved {g : zG} {u U : State} {h : zH} {H : Heap} (hvm : u.vm.Alike U.vm) (hO : zO g u h H) : zO g U h H :=
  ⟨hO.1, hO.2.1, hO.2.2.1, fun k ty x hk => ⟨arrOfT_moved hvm (hO.2.2.2 k ty x hk).1, (hO.2.2.2 k ty x hk).2.moved hvm⟩⟩
/-- a method: its name, code, locals, answer's type -/
abbrev zM : Type := MethodName × ByteArray × Nat × Option FieldType
abbrev zy (M : zM) : MethodName := M.1
abbrev zcc (M : zM) : ByteArray := M.2.1
abbrev zmL (M : zM) : Nat := M.2.2.1
abbrev zrt (M : zM) : Option FieldType := M.2.2.2
abbrev zcw (M : zM) : Cond := Cond.code (zy M) (zcc M) (zmL M) (zrt M)
def zws (M : zM) : List Cond := zcw M :: zT
def zPz (g : zG) (av : List Value) (h : zH) : Array Value → State → Prop := fun a U => a = (av.map (zv g)).toArray ∧ zK g U ∧ zO g U h U.heap
def zQz (g : zG) (Q : Option Value → zH → Prop) : Array Value → State → Outcome → State → Prop := fun _ st o t =>
  (∃ (r : Option Value) (h1 : zH), o = .returned (r.map (zv g)) ∧ Q r h1 ∧ zO g t h1 t.heap) ∧ va_F (zA g) st t
def zrm (d mc ms : Nat) : Room := { frames := d, cells := mc, slots := ms, locals := 60 * d }
/-- THE CONTRACT of a method: called with av in the world h, at depth d, it makes at most mc cells of ms slots, and its answer and the world behind it are as Q says -/
def Ev (M : zM) (d mc ms : Nat) (av : List Value) (h : zH) (Q : Option Value → zH → Prop) : Prop :=
  ∀ g : zG, Met g.1 (zy M) (zws M) (zrm d mc ms) (zPz g av h) (zQz g Q) mc ms (zA g)
abbrev zF : Type := Program → Env → Room → State → MethodId → Array Value → List Frame → Method → Code → zG → (State → Prop) → Prop
/-- the frame's fixed things: the end wanted, depth, cells and slots that it may use, the method -/
abbrev zB : Type := zF × Nat × Nat × Nat × zM
abbrev zbM (B : zB) : zM := B.2.2.2.2
abbrev zbc (B : zB) : ByteArray := zcc B.2.2.2.2
abbrev zbD (B : zB) : Nat := B.2.1
def zOk (B : zB) (p : Program) (e : Env) (R : Room) (s : State) (m : MethodId) (args : Array Value) (below : List Frame) (meth : Method) (c : Code) (g : zG) : Prop :=
  p.tables.exec = Jvm.exec ∧ c.code = zbc B ∧ c.maxLocals = zmL (zbM B) ∧ s.vm.findClass (zy (zbM B)).cls = some m.cls ∧ (∀ w ∈ zT, w.before args s = true) ∧ meth.locks = false ∧ meth.sig.returnType = zrt (zbM B) ∧ ((zy (zbM B)).name = "<init>" → meth.name = "<init>") ∧ zbD B ≤ R.frames ∧ 60 * zbD B ≤ R.locals ∧ B.2.2.1 ≤ R.cells ∧ B.2.2.2.1 ≤ R.slots ∧ zK g s ∧ zbase g ≤ s.heap.size
def zloc (g : zG) (lv : zL) : List (Nat × Value) := lv.map (fun q => (q.1, zv g q.2))
/-- from this frame the method ends as wanted -/
def Z (B : zB) (pc : Nat) (lv : zL) (st : List Value) (h : zH) (ce sl : Nat) : Prop :=
  ∀ (p : Program) (e : Env) (R : Room) (s : State) (m : MethodId) (args : Array Value) (below : List Frame) (meth : Method) (c : Code) (g : zG) (Qf : State → Prop),
    B.1 p e R s m args below meth c g Qf → zOk B p e R s m args below meth c g →
    ∀ (H : Heap) (locs : List Loc) (ls : Array Slot), zO g s h H → va_S (zA g) s.heap H locs → lv_has ls (zmL (zbM B)) (zloc g lv) → W p g.1 e R s m args below meth c H locs ce sl Qf (F0 m pc ls (st.map (zv g)))
theorem zloc_at {g : zG} {lv : zL} {k i : Nat} {v : Value} (hk : lv[k]? = some (i, v)) : (zloc g lv)[k]? = some (i, zv g v) := by simp [zloc, hk]
def zst1 (lv : zL) (i : Nat) (v : Value) : zL := (i, v) :: lv.filter (fun q => !(q.1 == i) && !(q.1 + 1 == i && q.2.category == 2))
def zst2 (lv : zL) (i : Nat) (v : Value) : zL := (i, v) :: lv.filter (fun q => !(q.1 == i) && (!(q.1 == i + 1) && !(q.1 + 1 == i && q.2.category == 2)))
theorem zst1_eq {g : zG} {lv lv' : zL} {i : Nat} {v : Value} (h : zst1 lv i v = lv') : (i, zv g v) :: (zloc g lv).filter (fun q => !(q.1 == i) && !(q.1 + 1 == i && q.2.category == 2)) = zloc g lv' := by
  subst h
  simp [zst1, zloc, List.filter_map, Function.comp_def, zv_cat]
theorem zst2_eq {g : zG} {lv lv' : zL} {i : Nat} {v : Value} (h : zst2 lv i v = lv') : (i, zv g v) :: (zloc g lv).filter (fun q => !(q.1 == i) && (!(q.1 == i + 1) && !(q.1 + 1 == i && q.2.category == 2))) = zloc g lv' := by
  subst h
  simp [zst2, zloc, List.filter_map, Function.comp_def, zv_cat]
section ZI
variable {B : zB} {pc : Nat} {lv lv' : zL} {st : List Value} {h : zH} {ce sl : Nat}
/-- fewer locals, in any order, by their places -/
theorem z_sub (ks : List Nat) (hl : lv_pick lv ks = lv') (k : Z B pc lv' st h ce sl) : Z B pc lv st h ce sl := by
  intro p e R s m args below meth c g Qf hF hO H locs ls hH hS hl0
  refine k p e R s m args below meth c g Qf hF hO H locs ls hH hS (lv_sub hl0 ks ?_)
  subst hl
  simp only [lv_pick, zloc, List.map_filterMap, List.getElem?_map]
theorem z_widen {c2 s2 : Nat} (h1 : ce ≤ c2) (h2 : sl ≤ s2) (k : Z B pc lv st h c2 s2) : Z B pc lv st h ce sl := by
  intro p e R s m args below meth c g Qf hF hO H locs ls hH hS hl0
  exact W.widen h1 h2 (k p e R s m args below meth c g Qf hF hO H locs ls hH hS hl0)
theorem z_iconst {n : Int} (v : Int32) (hd : decode (zbc B) pc = .ok (.iconst n, 1)) (hv : Int32.ofInt n = v) (k : Z B (pc + 1) lv (.int v :: st) h ce sl) : Z B pc lv (st) h ce sl := by
  intro p e R s m args below meth c g Qf hF hO H locs ls hH hS hl0
  exact lv_iconst hO.1 hO.2.1 hd hv (k p e R s m args below meth c g Qf hF hO H locs ls hH hS hl0)
theorem z_bipush {n : Int} (v : Int32) (hd : decode (zbc B) pc = .ok (.bipush n, 2)) (hv : (Int8.ofInt n).toInt32 = v) (k : Z B (pc + 2) lv (.int v :: st) h ce sl) : Z B pc lv (st) h ce sl := by
  intro p e R s m args below meth c g Qf hF hO H locs ls hH hS hl0
  exact lv_bipush hO.1 hO.2.1 hd hv (k p e R s m args below meth c g Qf hF hO H locs ls hH hS hl0)
theorem z_sipush {n : Int} (v : Int32) (hd : decode (zbc B) pc = .ok (.sipush n, 3)) (hv : (Int16.ofInt n).toInt32 = v) (k : Z B (pc + 3) lv (.int v :: st) h ce sl) : Z B pc lv (st) h ce sl := by
  intro p e R s m args below meth c g Qf hF hO H locs ls hH hS hl0
  exact lv_sipush hO.1 hO.2.1 hd hv (k p e R s m args below meth c g Qf hF hO H locs ls hH hS hl0)
theorem z_lconst {n : Fin 2} (v : Int64) (hd : decode (zbc B) pc = .ok (.lconst n, 1)) (hv : Int64.ofNat (n : Nat) = v) (k : Z B (pc + 1) lv (.long v :: st) h ce sl) : Z B pc lv (st) h ce sl := by
  intro p e R s m args below meth c g Qf hF hO H locs ls hH hS hl0
  exact lv_lconst hO.1 hO.2.1 hd hv (k p e R s m args below meth c g Qf hF hO H locs ls hH hS hl0)
theorem z_null  (hd : decode (zbc B) pc = .ok (.aconst_null, 1)) (k : Z B (pc + 1) lv (.null :: st) h ce sl) : Z B pc lv (st) h ce sl := by
  intro p e R s m args below meth c g Qf hF hO H locs ls hH hS hl0
  exact lv_null hO.1 hO.2.1 hd (k p e R s m args below meth c g Qf hF hO H locs ls hH hS hl0)
theorem z_ldc {idx : Nat} (v : Int32) (hd : decode (zbc B) pc = .ok (.ldc idx, 2)) (hw : Jvm.Cond.constant (zy (zbM B)).cls idx v ∈ zT) (k : Z B (pc + 2) lv (.int v :: st) h ce sl) : Z B pc lv (st) h ce sl := by
  intro p e R s m args below meth c g Qf hF hO H locs ls hH hS hl0
  exact lv_ldc hO.1 hO.2.1 hO.2.2.2.1 (hO.2.2.2.2.1 _ hw) hd (k p e R s m args below meth c g Qf hF hO H locs ls hH hS hl0)
theorem z_ldcw {idx : Nat} (v : Int32) (hd : decode (zbc B) pc = .ok (.ldc_w idx, 3)) (hw : Jvm.Cond.constant (zy (zbM B)).cls idx v ∈ zT) (k : Z B (pc + 3) lv (.int v :: st) h ce sl) : Z B pc lv (st) h ce sl := by
  intro p e R s m args below meth c g Qf hF hO H locs ls hH hS hl0
  exact lv_ldcw hO.1 hO.2.1 hO.2.2.2.1 (hO.2.2.2.2.1 _ hw) hd (k p e R s m args below meth c g Qf hF hO H locs ls hH hS hl0)
theorem z_ldc2 {idx : Nat} (v : Int64) (hd : decode (zbc B) pc = .ok (.ldc2_w idx, 3)) (hw : Jvm.Cond.constantLong (zy (zbM B)).cls idx v ∈ zT) (k : Z B (pc + 3) lv (.long v :: st) h ce sl) : Z B pc lv (st) h ce sl := by
  intro p e R s m args below meth c g Qf hF hO H locs ls hH hS hl0
  exact lv_ldc2 hO.1 hO.2.1 hO.2.2.2.1 (hO.2.2.2.2.1 _ hw) hd (k p e R s m args below meth c g Qf hF hO H locs ls hH hS hl0)
theorem z_iload_n {n : Fin 4} {i : Nat} {x : Int32} (j : Nat) (hd : decode (zbc B) pc = .ok (.iload_n n, 1)) (hi : (n : Nat) = i) (hj : lv[j]? = some (i, .int x)) (k : Z B (pc + 1) lv (.int x :: st) h ce sl) : Z B pc lv (st) h ce sl := by
  intro p e R s m args below meth c g Qf hF hO H locs ls hH hS hl0
  exact lv_iload_n hO.1 hO.2.1 hd hi (lv_at hl0 j (zloc_at hj)) (k p e R s m args below meth c g Qf hF hO H locs ls hH hS hl0)
theorem z_iload {i : Nat} {x : Int32} (j : Nat) (hd : decode (zbc B) pc = .ok (.iload i, 2)) (hj : lv[j]? = some (i, .int x)) (k : Z B (pc + 2) lv (.int x :: st) h ce sl) : Z B pc lv (st) h ce sl := by
  intro p e R s m args below meth c g Qf hF hO H locs ls hH hS hl0
  exact lv_iload hO.1 hO.2.1 hd (lv_at hl0 j (zloc_at hj)) (k p e R s m args below meth c g Qf hF hO H locs ls hH hS hl0)
theorem z_lload_n {n : Fin 4} {i : Nat} {x : Int64} (j : Nat) (hd : decode (zbc B) pc = .ok (.lload_n n, 1)) (hi : (n : Nat) = i) (hj : lv[j]? = some (i, .long x)) (k : Z B (pc + 1) lv (.long x :: st) h ce sl) : Z B pc lv (st) h ce sl := by
  intro p e R s m args below meth c g Qf hF hO H locs ls hH hS hl0
  exact lv_lload_n hO.1 hO.2.1 hd hi (lv_at hl0 j (zloc_at hj)) (k p e R s m args below meth c g Qf hF hO H locs ls hH hS hl0)
theorem z_lload {i : Nat} {x : Int64} (j : Nat) (hd : decode (zbc B) pc = .ok (.lload i, 2)) (hj : lv[j]? = some (i, .long x)) (k : Z B (pc + 2) lv (.long x :: st) h ce sl) : Z B pc lv (st) h ce sl := by
  intro p e R s m args below meth c g Qf hF hO H locs ls hH hS hl0
  exact lv_lload hO.1 hO.2.1 hd (lv_at hl0 j (zloc_at hj)) (k p e R s m args below meth c g Qf hF hO H locs ls hH hS hl0)
theorem z_aload_n {n : Fin 4} {i : Nat} {x : Nat} (j : Nat) (hd : decode (zbc B) pc = .ok (.aload_n n, 1)) (hi : (n : Nat) = i) (hj : lv[j]? = some (i, .ref x)) (k : Z B (pc + 1) lv (.ref x :: st) h ce sl) : Z B pc lv (st) h ce sl := by
  intro p e R s m args below meth c g Qf hF hO H locs ls hH hS hl0
  exact lv_aload_n hO.1 hO.2.1 hd hi (lv_at hl0 j (zloc_at hj)) (k p e R s m args below meth c g Qf hF hO H locs ls hH hS hl0)
theorem z_aload {i : Nat} {x : Nat} (j : Nat) (hd : decode (zbc B) pc = .ok (.aload i, 2)) (hj : lv[j]? = some (i, .ref x)) (k : Z B (pc + 2) lv (.ref x :: st) h ce sl) : Z B pc lv (st) h ce sl := by
  intro p e R s m args below meth c g Qf hF hO H locs ls hH hS hl0
  exact lv_aload hO.1 hO.2.1 hd (lv_at hl0 j (zloc_at hj)) (k p e R s m args below meth c g Qf hF hO H locs ls hH hS hl0)
theorem z_aload_nN {n : Fin 4} {i : Nat} (j : Nat) (hd : decode (zbc B) pc = .ok (.aload_n n, 1)) (hi : (n : Nat) = i) (hj : lv[j]? = some (i, .null)) (k : Z B (pc + 1) lv (.null :: st) h ce sl) : Z B pc lv (st) h ce sl := by
  intro p e R s m args below meth c g Qf hF hO H locs ls hH hS hl0
  exact lv_aload_nN hO.1 hO.2.1 hd hi (lv_at hl0 j (zloc_at hj)) (k p e R s m args below meth c g Qf hF hO H locs ls hH hS hl0)
theorem z_aloadN {i : Nat} (j : Nat) (hd : decode (zbc B) pc = .ok (.aload i, 2)) (hj : lv[j]? = some (i, .null)) (k : Z B (pc + 2) lv (.null :: st) h ce sl) : Z B pc lv (st) h ce sl := by
  intro p e R s m args below meth c g Qf hF hO H locs ls hH hS hl0
  exact lv_aloadN hO.1 hO.2.1 hd (lv_at hl0 j (zloc_at hj)) (k p e R s m args below meth c g Qf hF hO H locs ls hH hS hl0)
theorem z_istore_n {n : Fin 4} {i : Nat} {x : Int32} (hd : decode (zbc B) pc = .ok (.istore_n n, 1)) (hi : (n : Nat) = i) (hn : i < zmL (zbM B)) (hl : zst1 lv i (.int x) = lv') (k : Z B (pc + 1) lv' st h ce sl) : Z B pc lv (.int x :: st) h ce sl := by
  intro p e R s m args below meth c g Qf hF hO H locs ls hH hS hl0
  exact lv_istore_n hO.1 hO.2.1 hd hi hl0 hn (zst1_eq hl) (fun ls' hl' => k p e R s m args below meth c g Qf hF hO H locs ls' hH hS hl')
theorem z_istore {i : Nat} {x : Int32} (hd : decode (zbc B) pc = .ok (.istore i, 2)) (hn : i < zmL (zbM B)) (hl : zst1 lv i (.int x) = lv') (k : Z B (pc + 2) lv' st h ce sl) : Z B pc lv (.int x :: st) h ce sl := by
  intro p e R s m args below meth c g Qf hF hO H locs ls hH hS hl0
  exact lv_istore hO.1 hO.2.1 hd hl0 hn (zst1_eq hl) (fun ls' hl' => k p e R s m args below meth c g Qf hF hO H locs ls' hH hS hl')
theorem z_lstore_n {n : Fin 4} {i : Nat} {x : Int64} (hd : decode (zbc B) pc = .ok (.lstore_n n, 1)) (hi : (n : Nat) = i) (hn : i + 1 < zmL (zbM B)) (hl : zst2 lv i (.long x) = lv') (k : Z B (pc + 1) lv' st h ce sl) : Z B pc lv (.long x :: st) h ce sl := by
  intro p e R s m args below meth c g Qf hF hO H locs ls hH hS hl0
  exact lv_lstore_n hO.1 hO.2.1 hd hi hl0 hn (zst2_eq hl) (fun ls' hl' => k p e R s m args below meth c g Qf hF hO H locs ls' hH hS hl')
theorem z_lstore {i : Nat} {x : Int64} (hd : decode (zbc B) pc = .ok (.lstore i, 2)) (hn : i + 1 < zmL (zbM B)) (hl : zst2 lv i (.long x) = lv') (k : Z B (pc + 2) lv' st h ce sl) : Z B pc lv (.long x :: st) h ce sl := by
  intro p e R s m args below meth c g Qf hF hO H locs ls hH hS hl0
  exact lv_lstore hO.1 hO.2.1 hd hl0 hn (zst2_eq hl) (fun ls' hl' => k p e R s m args below meth c g Qf hF hO H locs ls' hH hS hl')
theorem z_astore_n {n : Fin 4} {i : Nat} {x : Nat} (hd : decode (zbc B) pc = .ok (.astore_n n, 1)) (hi : (n : Nat) = i) (hn : i < zmL (zbM B)) (hl : zst1 lv i (.ref x) = lv') (k : Z B (pc + 1) lv' st h ce sl) : Z B pc lv (.ref x :: st) h ce sl := by
  intro p e R s m args below meth c g Qf hF hO H locs ls hH hS hl0
  exact lv_astore_n hO.1 hO.2.1 hd hi hl0 hn (zst1_eq hl) (fun ls' hl' => k p e R s m args below meth c g Qf hF hO H locs ls' hH hS hl')
theorem z_astore {i : Nat} {x : Nat} (hd : decode (zbc B) pc = .ok (.astore i, 2)) (hn : i < zmL (zbM B)) (hl : zst1 lv i (.ref x) = lv') (k : Z B (pc + 2) lv' st h ce sl) : Z B pc lv (.ref x :: st) h ce sl := by
  intro p e R s m args below meth c g Qf hF hO H locs ls hH hS hl0
  exact lv_astore hO.1 hO.2.1 hd hl0 hn (zst1_eq hl) (fun ls' hl' => k p e R s m args below meth c g Qf hF hO H locs ls' hH hS hl')
theorem z_iinc {i : Nat} {n : Int} {x : Int32} (j : Nat) (v : Int32) (hd : decode (zbc B) pc = .ok (.iinc i n, 3)) (hj : lv[j]? = some (i, .int x)) (hv : x + Int32.ofInt n = v) (hn : i < zmL (zbM B)) (hl : zst1 lv i (.int v) = lv') (k : Z B (pc + 3) lv' st h ce sl) : Z B pc lv st h ce sl := by
  intro p e R s m args below meth c g Qf hF hO H locs ls hH hS hl0
  exact lv_iinc hO.1 hO.2.1 hd hl0 (zloc_at (g := g) hj) hv hn (zst1_eq hl) (fun ls' hl' => k p e R s m args below meth c g Qf hF hO H locs ls' hH hS hl')
theorem z_iadd {x y : Int32} (hd : decode (zbc B) pc = .ok (.iadd, 1)) (k : Z B (pc + 1) lv (.int (x + y) :: st) h ce sl) : Z B pc lv (.int y :: .int x :: st) h ce sl := by
  intro p e R s m args below meth c g Qf hF hO H locs ls hH hS hl0
  exact lv_iadd hO.1 hO.2.1 hd (k p e R s m args below meth c g Qf hF hO H locs ls hH hS hl0)
theorem z_isub {x y : Int32} (hd : decode (zbc B) pc = .ok (.isub, 1)) (k : Z B (pc + 1) lv (.int (x - y) :: st) h ce sl) : Z B pc lv (.int y :: .int x :: st) h ce sl := by
  intro p e R s m args below meth c g Qf hF hO H locs ls hH hS hl0
  exact lv_isub hO.1 hO.2.1 hd (k p e R s m args below meth c g Qf hF hO H locs ls hH hS hl0)
theorem z_imul {x y : Int32} (hd : decode (zbc B) pc = .ok (.imul, 1)) (k : Z B (pc + 1) lv (.int (x * y) :: st) h ce sl) : Z B pc lv (.int y :: .int x :: st) h ce sl := by
  intro p e R s m args below meth c g Qf hF hO H locs ls hH hS hl0
  exact lv_imul hO.1 hO.2.1 hd (k p e R s m args below meth c g Qf hF hO H locs ls hH hS hl0)
theorem z_iand {x y : Int32} (hd : decode (zbc B) pc = .ok (.iand, 1)) (k : Z B (pc + 1) lv (.int (x &&& y) :: st) h ce sl) : Z B pc lv (.int y :: .int x :: st) h ce sl := by
  intro p e R s m args below meth c g Qf hF hO H locs ls hH hS hl0
  exact lv_iand hO.1 hO.2.1 hd (k p e R s m args below meth c g Qf hF hO H locs ls hH hS hl0)
theorem z_ior {x y : Int32} (hd : decode (zbc B) pc = .ok (.ior, 1)) (k : Z B (pc + 1) lv (.int (x ||| y) :: st) h ce sl) : Z B pc lv (.int y :: .int x :: st) h ce sl := by
  intro p e R s m args below meth c g Qf hF hO H locs ls hH hS hl0
  exact lv_ior hO.1 hO.2.1 hd (k p e R s m args below meth c g Qf hF hO H locs ls hH hS hl0)
theorem z_ixor {x y : Int32} (hd : decode (zbc B) pc = .ok (.ixor, 1)) (k : Z B (pc + 1) lv (.int (x ^^^ y) :: st) h ce sl) : Z B pc lv (.int y :: .int x :: st) h ce sl := by
  intro p e R s m args below meth c g Qf hF hO H locs ls hH hS hl0
  exact lv_ixor hO.1 hO.2.1 hd (k p e R s m args below meth c g Qf hF hO H locs ls hH hS hl0)
theorem z_ladd {x y : Int64} (hd : decode (zbc B) pc = .ok (.ladd, 1)) (k : Z B (pc + 1) lv (.long (x + y) :: st) h ce sl) : Z B pc lv (.long y :: .long x :: st) h ce sl := by
  intro p e R s m args below meth c g Qf hF hO H locs ls hH hS hl0
  exact lv_ladd hO.1 hO.2.1 hd (k p e R s m args below meth c g Qf hF hO H locs ls hH hS hl0)
theorem z_lsub {x y : Int64} (hd : decode (zbc B) pc = .ok (.lsub, 1)) (k : Z B (pc + 1) lv (.long (x - y) :: st) h ce sl) : Z B pc lv (.long y :: .long x :: st) h ce sl := by
  intro p e R s m args below meth c g Qf hF hO H locs ls hH hS hl0
  exact lv_lsub hO.1 hO.2.1 hd (k p e R s m args below meth c g Qf hF hO H locs ls hH hS hl0)
theorem z_lmul {x y : Int64} (hd : decode (zbc B) pc = .ok (.lmul, 1)) (k : Z B (pc + 1) lv (.long (x * y) :: st) h ce sl) : Z B pc lv (.long y :: .long x :: st) h ce sl := by
  intro p e R s m args below meth c g Qf hF hO H locs ls hH hS hl0
  exact lv_lmul hO.1 hO.2.1 hd (k p e R s m args below meth c g Qf hF hO H locs ls hH hS hl0)
theorem z_land {x y : Int64} (hd : decode (zbc B) pc = .ok (.land, 1)) (k : Z B (pc + 1) lv (.long (x &&& y) :: st) h ce sl) : Z B pc lv (.long y :: .long x :: st) h ce sl := by
  intro p e R s m args below meth c g Qf hF hO H locs ls hH hS hl0
  exact lv_land hO.1 hO.2.1 hd (k p e R s m args below meth c g Qf hF hO H locs ls hH hS hl0)
theorem z_lor {x y : Int64} (hd : decode (zbc B) pc = .ok (.lor, 1)) (k : Z B (pc + 1) lv (.long (x ||| y) :: st) h ce sl) : Z B pc lv (.long y :: .long x :: st) h ce sl := by
  intro p e R s m args below meth c g Qf hF hO H locs ls hH hS hl0
  exact lv_lor hO.1 hO.2.1 hd (k p e R s m args below meth c g Qf hF hO H locs ls hH hS hl0)
theorem z_lxor {x y : Int64} (hd : decode (zbc B) pc = .ok (.lxor, 1)) (k : Z B (pc + 1) lv (.long (x ^^^ y) :: st) h ce sl) : Z B pc lv (.long y :: .long x :: st) h ce sl := by
  intro p e R s m args below meth c g Qf hF hO H locs ls hH hS hl0
  exact lv_lxor hO.1 hO.2.1 hd (k p e R s m args below meth c g Qf hF hO H locs ls hH hS hl0)
theorem z_idiv {x y : Int32} (hd : decode (zbc B) pc = .ok (.idiv, 1)) (hne : ¬ y = 0) (k : Z B (pc + 1) lv (.int (x / y) :: st) h ce sl) : Z B pc lv (.int y :: .int x :: st) h ce sl := by
  intro p e R s m args below meth c g Qf hF hO H locs ls hH hS hl0
  exact lv_idiv hO.1 hO.2.1 hd hne (k p e R s m args below meth c g Qf hF hO H locs ls hH hS hl0)
theorem z_irem {x y : Int32} (hd : decode (zbc B) pc = .ok (.irem, 1)) (hne : ¬ y = 0) (k : Z B (pc + 1) lv (.int (x - x / y * y) :: st) h ce sl) : Z B pc lv (.int y :: .int x :: st) h ce sl := by
  intro p e R s m args below meth c g Qf hF hO H locs ls hH hS hl0
  exact lv_irem hO.1 hO.2.1 hd hne (k p e R s m args below meth c g Qf hF hO H locs ls hH hS hl0)
theorem z_ldiv {x y : Int64} (hd : decode (zbc B) pc = .ok (.ldiv, 1)) (hne : ¬ y = 0) (k : Z B (pc + 1) lv (.long (x / y) :: st) h ce sl) : Z B pc lv (.long y :: .long x :: st) h ce sl := by
  intro p e R s m args below meth c g Qf hF hO H locs ls hH hS hl0
  exact lv_ldiv hO.1 hO.2.1 hd hne (k p e R s m args below meth c g Qf hF hO H locs ls hH hS hl0)
theorem z_lrem {x y : Int64} (hd : decode (zbc B) pc = .ok (.lrem, 1)) (hne : ¬ y = 0) (k : Z B (pc + 1) lv (.long (x - x / y * y) :: st) h ce sl) : Z B pc lv (.long y :: .long x :: st) h ce sl := by
  intro p e R s m args below meth c g Qf hF hO H locs ls hH hS hl0
  exact lv_lrem hO.1 hO.2.1 hd hne (k p e R s m args below meth c g Qf hF hO H locs ls hH hS hl0)
theorem z_ineg {x : Int32} (hd : decode (zbc B) pc = .ok (.ineg, 1)) (k : Z B (pc + 1) lv (.int (0 - x) :: st) h ce sl) : Z B pc lv (.int x :: st) h ce sl := by
  intro p e R s m args below meth c g Qf hF hO H locs ls hH hS hl0
  exact lv_ineg hO.1 hO.2.1 hd (k p e R s m args below meth c g Qf hF hO H locs ls hH hS hl0)
theorem z_ishl {x y : Int32} (hd : decode (zbc B) pc = .ok (.ishl, 1)) (k : Z B (pc + 1) lv (.int (x <<< (y &&& 31)) :: st) h ce sl) : Z B pc lv (.int y :: .int x :: st) h ce sl := by
  intro p e R s m args below meth c g Qf hF hO H locs ls hH hS hl0
  exact lv_ishl hO.1 hO.2.1 hd (k p e R s m args below meth c g Qf hF hO H locs ls hH hS hl0)
theorem z_ishr {x y : Int32} (hd : decode (zbc B) pc = .ok (.ishr, 1)) (k : Z B (pc + 1) lv (.int (x >>> (y &&& 31)) :: st) h ce sl) : Z B pc lv (.int y :: .int x :: st) h ce sl := by
  intro p e R s m args below meth c g Qf hF hO H locs ls hH hS hl0
  exact lv_ishr hO.1 hO.2.1 hd (k p e R s m args below meth c g Qf hF hO H locs ls hH hS hl0)
theorem z_i2l {x : Int32} (hd : decode (zbc B) pc = .ok (.i2l, 1)) (k : Z B (pc + 1) lv (.long x.toInt64 :: st) h ce sl) : Z B pc lv (.int x :: st) h ce sl := by
  intro p e R s m args below meth c g Qf hF hO H locs ls hH hS hl0
  exact lv_i2l hO.1 hO.2.1 hd rfl (k p e R s m args below meth c g Qf hF hO H locs ls hH hS hl0)
theorem z_l2i {x : Int64} (hd : decode (zbc B) pc = .ok (.l2i, 1)) (k : Z B (pc + 1) lv (.int x.toInt32 :: st) h ce sl) : Z B pc lv (.long x :: st) h ce sl := by
  intro p e R s m args below meth c g Qf hF hO H locs ls hH hS hl0
  exact lv_l2i hO.1 hO.2.1 hd rfl (k p e R s m args below meth c g Qf hF hO H locs ls hH hS hl0)
theorem z_i2b {x : Int32} (hd : decode (zbc B) pc = .ok (.i2b, 1)) (k : Z B (pc + 1) lv (.int x.toInt8.toInt32 :: st) h ce sl) : Z B pc lv (.int x :: st) h ce sl := by
  intro p e R s m args below meth c g Qf hF hO H locs ls hH hS hl0
  exact lv_i2b hO.1 hO.2.1 hd rfl (k p e R s m args below meth c g Qf hF hO H locs ls hH hS hl0)
theorem z_iushr {x y : Int32} (hd : decode (zbc B) pc = .ok (.iushr, 1)) (k : Z B (pc + 1) lv (.int (x.toUInt32 >>> (y.toUInt32 &&& Int32.toUInt32 31)).toInt32 :: st) h ce sl) : Z B pc lv (.int y :: .int x :: st) h ce sl := by
  intro p e R s m args below meth c g Qf hF hO H locs ls hH hS hl0
  exact lv_iushr hO.1 hO.2.1 hd rfl (k p e R s m args below meth c g Qf hF hO H locs ls hH hS hl0)
theorem z_lushr {x : Int64} {y : Int32} (hd : decode (zbc B) pc = .ok (.lushr, 1)) (k : Z B (pc + 1) lv (.long (x.toUInt64 >>> (y.toInt64.toUInt64 &&& Int64.toUInt64 63)).toInt64 :: st) h ce sl) : Z B pc lv (.int y :: .long x :: st) h ce sl := by
  intro p e R s m args below meth c g Qf hF hO H locs ls hH hS hl0
  exact lv_lushr hO.1 hO.2.1 hd rfl (k p e R s m args below meth c g Qf hF hO H locs ls hH hS hl0)
theorem z_lshl {x : Int64} {y : Int32} (hd : decode (zbc B) pc = .ok (.lshl, 1)) (k : Z B (pc + 1) lv (.long (x <<< (y.toInt64 &&& 63)) :: st) h ce sl) : Z B pc lv (.int y :: .long x :: st) h ce sl := by
  intro p e R s m args below meth c g Qf hF hO H locs ls hH hS hl0
  exact lv_lshl hO.1 hO.2.1 hd rfl (k p e R s m args below meth c g Qf hF hO H locs ls hH hS hl0)
theorem z_lshr {x : Int64} {y : Int32} (hd : decode (zbc B) pc = .ok (.lshr, 1)) (k : Z B (pc + 1) lv (.long (x >>> (y.toInt64 &&& 63)) :: st) h ce sl) : Z B pc lv (.int y :: .long x :: st) h ce sl := by
  intro p e R s m args below meth c g Qf hF hO H locs ls hH hS hl0
  exact lv_lshr hO.1 hO.2.1 hd rfl (k p e R s m args below meth c g Qf hF hO H locs ls hH hS hl0)
theorem z_lcmp {x y : Int64} (hd : decode (zbc B) pc = .ok (.lcmp, 1)) (k : Z B (pc + 1) lv (.int (lg_cmp x y) :: st) h ce sl) : Z B pc lv (.long y :: .long x :: st) h ce sl := by
  intro p e R s m args below meth c g Qf hF hO H locs ls hH hS hl0
  exact W.lcmp hO.1 hO.2.1 hd (k p e R s m args below meth c g Qf hF hO H locs ls hH hS hl0)
theorem z_dup {v : Value} (hd : decode (zbc B) pc = .ok (.dup, 1)) (hv : v.category = 1) (k : Z B (pc + 1) lv (v :: v :: st) h ce sl) : Z B pc lv (v :: st) h ce sl := by
  intro p e R s m args below meth c g Qf hF hO H locs ls hH hS hl0
  exact lv_dup hO.1 hO.2.1 hd (by rw [zv_cat]; exact hv) (k p e R s m args below meth c g Qf hF hO H locs ls hH hS hl0)
theorem z_pop {v : Value} (hd : decode (zbc B) pc = .ok (.pop, 1)) (hv : v.category = 1) (k : Z B (pc + 1) lv (st) h ce sl) : Z B pc lv (v :: st) h ce sl := by
  intro p e R s m args below meth c g Qf hF hO H locs ls hH hS hl0
  exact lv_pop hO.1 hO.2.1 hd (by rw [zv_cat]; exact hv) (k p e R s m args below meth c g Qf hF hO H locs ls hH hS hl0)
theorem z_dup_x1 {v w : Value} (hd : decode (zbc B) pc = .ok (.dup_x1, 1)) (hv : v.category = 1) (hw : w.category = 1) (k : Z B (pc + 1) lv (v :: w :: v :: st) h ce sl) : Z B pc lv (v :: w :: st) h ce sl := by
  intro p e R s m args below meth c g Qf hF hO H locs ls hH hS hl0
  exact lv_dup_x1 hO.1 hO.2.1 hd (by rw [zv_cat]; exact hv) (by rw [zv_cat]; exact hw) (k p e R s m args below meth c g Qf hF hO H locs ls hH hS hl0)
theorem z_dup_x2 {v w u : Value} (hd : decode (zbc B) pc = .ok (.dup_x2, 1)) (hv : v.category = 1) (hw : w.category = 1) (hu : u.category = 1) (k : Z B (pc + 1) lv (v :: w :: u :: v :: st) h ce sl) : Z B pc lv (v :: w :: u :: st) h ce sl := by
  intro p e R s m args below meth c g Qf hF hO H locs ls hH hS hl0
  exact lv_dup_x2 hO.1 hO.2.1 hd (by rw [zv_cat]; exact hv) (by rw [zv_cat]; exact hw) (by rw [zv_cat]; exact hu) (k p e R s m args below meth c g Qf hF hO H locs ls hH hS hl0)
theorem z_dup2 {v w : Value} (hd : decode (zbc B) pc = .ok (.dup2, 1)) (hv : v.category = 1) (hw : w.category = 1) (k : Z B (pc + 1) lv (v :: w :: v :: w :: st) h ce sl) : Z B pc lv (v :: w :: st) h ce sl := by
  intro p e R s m args below meth c g Qf hF hO H locs ls hH hS hl0
  exact lv_dup2_11 hO.1 hO.2.1 hd (by rw [zv_cat]; exact hv) (by rw [zv_cat]; exact hw) (k p e R s m args below meth c g Qf hF hO H locs ls hH hS hl0)
theorem z_if_eq {x : Int32} {off : Int} (tgt : Nat) (hd : decode (zbc B) pc = .ok (.ifCond .eq off, 3)) (ht : (pc : Int) + off = (tgt : Int)) (kt : x = 0 → Z B tgt lv st h ce sl) (kf : ¬ x = 0 → Z B (pc + 3) lv st h ce sl) : Z B pc lv (.int x :: st) h ce sl := by
  intro p e R s m args below meth c g Qf hF hO H locs ls hH hS hl0
  exact lv_if_eq hO.1 hO.2.1 hd ht (fun q => kt q p e R s m args below meth c g Qf hF hO H locs ls hH hS hl0) (fun q => kf q p e R s m args below meth c g Qf hF hO H locs ls hH hS hl0)
theorem z_icmp_eq {x y : Int32} {off : Int} (tgt : Nat) (hd : decode (zbc B) pc = .ok (.if_icmp .eq off, 3)) (ht : (pc : Int) + off = (tgt : Int)) (kt : x = y → Z B tgt lv st h ce sl) (kf : ¬ x = y → Z B (pc + 3) lv st h ce sl) : Z B pc lv (.int y :: .int x :: st) h ce sl := by
  intro p e R s m args below meth c g Qf hF hO H locs ls hH hS hl0
  exact lv_icmp_eq hO.1 hO.2.1 hd ht (fun q => kt q p e R s m args below meth c g Qf hF hO H locs ls hH hS hl0) (fun q => kf q p e R s m args below meth c g Qf hF hO H locs ls hH hS hl0)
theorem z_if_ne {x : Int32} {off : Int} (tgt : Nat) (hd : decode (zbc B) pc = .ok (.ifCond .ne off, 3)) (ht : (pc : Int) + off = (tgt : Int)) (kt : ¬ x = 0 → Z B tgt lv st h ce sl) (kf : x = 0 → Z B (pc + 3) lv st h ce sl) : Z B pc lv (.int x :: st) h ce sl := by
  intro p e R s m args below meth c g Qf hF hO H locs ls hH hS hl0
  exact lv_if_ne hO.1 hO.2.1 hd ht (fun q => kt q p e R s m args below meth c g Qf hF hO H locs ls hH hS hl0) (fun q => kf q p e R s m args below meth c g Qf hF hO H locs ls hH hS hl0)
theorem z_icmp_ne {x y : Int32} {off : Int} (tgt : Nat) (hd : decode (zbc B) pc = .ok (.if_icmp .ne off, 3)) (ht : (pc : Int) + off = (tgt : Int)) (kt : ¬ x = y → Z B tgt lv st h ce sl) (kf : x = y → Z B (pc + 3) lv st h ce sl) : Z B pc lv (.int y :: .int x :: st) h ce sl := by
  intro p e R s m args below meth c g Qf hF hO H locs ls hH hS hl0
  exact lv_icmp_ne hO.1 hO.2.1 hd ht (fun q => kt q p e R s m args below meth c g Qf hF hO H locs ls hH hS hl0) (fun q => kf q p e R s m args below meth c g Qf hF hO H locs ls hH hS hl0)
theorem z_if_lt {x : Int32} {off : Int} (tgt : Nat) (hd : decode (zbc B) pc = .ok (.ifCond .lt off, 3)) (ht : (pc : Int) + off = (tgt : Int)) (kt : x < 0 → Z B tgt lv st h ce sl) (kf : ¬ x < 0 → Z B (pc + 3) lv st h ce sl) : Z B pc lv (.int x :: st) h ce sl := by
  intro p e R s m args below meth c g Qf hF hO H locs ls hH hS hl0
  exact lv_if_lt hO.1 hO.2.1 hd ht (fun q => kt q p e R s m args below meth c g Qf hF hO H locs ls hH hS hl0) (fun q => kf q p e R s m args below meth c g Qf hF hO H locs ls hH hS hl0)
theorem z_icmp_lt {x y : Int32} {off : Int} (tgt : Nat) (hd : decode (zbc B) pc = .ok (.if_icmp .lt off, 3)) (ht : (pc : Int) + off = (tgt : Int)) (kt : x < y → Z B tgt lv st h ce sl) (kf : ¬ x < y → Z B (pc + 3) lv st h ce sl) : Z B pc lv (.int y :: .int x :: st) h ce sl := by
  intro p e R s m args below meth c g Qf hF hO H locs ls hH hS hl0
  exact lv_icmp_lt hO.1 hO.2.1 hd ht (fun q => kt q p e R s m args below meth c g Qf hF hO H locs ls hH hS hl0) (fun q => kf q p e R s m args below meth c g Qf hF hO H locs ls hH hS hl0)
theorem z_if_ge {x : Int32} {off : Int} (tgt : Nat) (hd : decode (zbc B) pc = .ok (.ifCond .ge off, 3)) (ht : (pc : Int) + off = (tgt : Int)) (kt : 0 ≤ x → Z B tgt lv st h ce sl) (kf : ¬ 0 ≤ x → Z B (pc + 3) lv st h ce sl) : Z B pc lv (.int x :: st) h ce sl := by
  intro p e R s m args below meth c g Qf hF hO H locs ls hH hS hl0
  exact lv_if_ge hO.1 hO.2.1 hd ht (fun q => kt q p e R s m args below meth c g Qf hF hO H locs ls hH hS hl0) (fun q => kf q p e R s m args below meth c g Qf hF hO H locs ls hH hS hl0)
theorem z_icmp_ge {x y : Int32} {off : Int} (tgt : Nat) (hd : decode (zbc B) pc = .ok (.if_icmp .ge off, 3)) (ht : (pc : Int) + off = (tgt : Int)) (kt : y ≤ x → Z B tgt lv st h ce sl) (kf : ¬ y ≤ x → Z B (pc + 3) lv st h ce sl) : Z B pc lv (.int y :: .int x :: st) h ce sl := by
  intro p e R s m args below meth c g Qf hF hO H locs ls hH hS hl0
  exact lv_icmp_ge hO.1 hO.2.1 hd ht (fun q => kt q p e R s m args below meth c g Qf hF hO H locs ls hH hS hl0) (fun q => kf q p e R s m args below meth c g Qf hF hO H locs ls hH hS hl0)
theorem z_if_gt {x : Int32} {off : Int} (tgt : Nat) (hd : decode (zbc B) pc = .ok (.ifCond .gt off, 3)) (ht : (pc : Int) + off = (tgt : Int)) (kt : 0 < x → Z B tgt lv st h ce sl) (kf : ¬ 0 < x → Z B (pc + 3) lv st h ce sl) : Z B pc lv (.int x :: st) h ce sl := by
  intro p e R s m args below meth c g Qf hF hO H locs ls hH hS hl0
  exact lv_if_gt hO.1 hO.2.1 hd ht (fun q => kt q p e R s m args below meth c g Qf hF hO H locs ls hH hS hl0) (fun q => kf q p e R s m args below meth c g Qf hF hO H locs ls hH hS hl0)
theorem z_icmp_gt {x y : Int32} {off : Int} (tgt : Nat) (hd : decode (zbc B) pc = .ok (.if_icmp .gt off, 3)) (ht : (pc : Int) + off = (tgt : Int)) (kt : y < x → Z B tgt lv st h ce sl) (kf : ¬ y < x → Z B (pc + 3) lv st h ce sl) : Z B pc lv (.int y :: .int x :: st) h ce sl := by
  intro p e R s m args below meth c g Qf hF hO H locs ls hH hS hl0
  exact lv_icmp_gt hO.1 hO.2.1 hd ht (fun q => kt q p e R s m args below meth c g Qf hF hO H locs ls hH hS hl0) (fun q => kf q p e R s m args below meth c g Qf hF hO H locs ls hH hS hl0)
theorem z_if_le {x : Int32} {off : Int} (tgt : Nat) (hd : decode (zbc B) pc = .ok (.ifCond .le off, 3)) (ht : (pc : Int) + off = (tgt : Int)) (kt : x ≤ 0 → Z B tgt lv st h ce sl) (kf : ¬ x ≤ 0 → Z B (pc + 3) lv st h ce sl) : Z B pc lv (.int x :: st) h ce sl := by
  intro p e R s m args below meth c g Qf hF hO H locs ls hH hS hl0
  exact lv_if_le hO.1 hO.2.1 hd ht (fun q => kt q p e R s m args below meth c g Qf hF hO H locs ls hH hS hl0) (fun q => kf q p e R s m args below meth c g Qf hF hO H locs ls hH hS hl0)
theorem z_icmp_le {x y : Int32} {off : Int} (tgt : Nat) (hd : decode (zbc B) pc = .ok (.if_icmp .le off, 3)) (ht : (pc : Int) + off = (tgt : Int)) (kt : x ≤ y → Z B tgt lv st h ce sl) (kf : ¬ x ≤ y → Z B (pc + 3) lv st h ce sl) : Z B pc lv (.int y :: .int x :: st) h ce sl := by
  intro p e R s m args below meth c g Qf hF hO H locs ls hH hS hl0
  exact lv_icmp_le hO.1 hO.2.1 hd ht (fun q => kt q p e R s m args below meth c g Qf hF hO H locs ls hH hS hl0) (fun q => kf q p e R s m args below meth c g Qf hF hO H locs ls hH hS hl0)
theorem z_goto {off : Int} (tgt : Nat) (hd : decode (zbc B) pc = .ok (.goto off, 3)) (ht : (pc : Int) + off = (tgt : Int)) (k : Z B (tgt) lv (st) h ce sl) : Z B pc lv (st) h ce sl := by
  intro p e R s m args below meth c g Qf hF hO H locs ls hH hS hl0
  exact lv_goto hO.1 hO.2.1 hd ht (k p e R s m args below meth c g Qf hF hO H locs ls hH hS hl0)
theorem z_ifnonnull {off : Int} {x : Nat} (tgt : Nat) (hd : decode (zbc B) pc = .ok (.ifnonnull off, 3)) (ht : (pc : Int) + off = (tgt : Int)) (k : Z B (tgt) lv (st) h ce sl) : Z B pc lv (.ref x :: st) h ce sl := by
  intro p e R s m args below meth c g Qf hF hO H locs ls hH hS hl0
  exact lv_ifnonnull hO.1 hO.2.1 hd ht (k p e R s m args below meth c g Qf hF hO H locs ls hH hS hl0)
theorem z_ifnull {off : Int} {x : Nat} (hd : decode (zbc B) pc = .ok (.ifnull off, 3)) (k : Z B (pc + 3) lv (st) h ce sl) : Z B pc lv (.ref x :: st) h ce sl := by
  intro p e R s m args below meth c g Qf hF hO H locs ls hH hS hl0
  exact lv_ifnull hO.1 hO.2.1 hd (k p e R s m args below meth c g Qf hF hO H locs ls hH hS hl0)
theorem z_ifnullN {off : Int} (tgt : Nat) (hd : decode (zbc B) pc = .ok (.ifnull off, 3)) (ht : (pc : Int) + off = (tgt : Int)) (k : Z B (tgt) lv (st) h ce sl) : Z B pc lv (.null :: st) h ce sl := by
  intro p e R s m args below meth c g Qf hF hO H locs ls hH hS hl0
  exact lv_ifnullN hO.1 hO.2.1 hd ht (k p e R s m args below meth c g Qf hF hO H locs ls hH hS hl0)
theorem z_ifnonnullN {off : Int} (hd : decode (zbc B) pc = .ok (.ifnonnull off, 3)) (k : Z B (pc + 3) lv (st) h ce sl) : Z B pc lv (.null :: st) h ce sl := by
  intro p e R s m args below meth c g Qf hF hO H locs ls hH hS hl0
  exact lv_ifnonnullN hO.1 hO.2.1 hd (k p e R s m args below meth c g Qf hF hO H locs ls hH hS hl0)
theorem z_lookup {dflt : Int} {ps : Array (Int × Int)} {len : Nat} {x : Int32} {off : Int} (tgt : Nat) (hd : decode (zbc B) pc = .ok (.lookupswitch dflt ps, len)) (hp : (ps.toList.zip (ps.toList.drop 1)).all (fun (a, next) => a.1 < next.1) = true) (ho : Op.lookupswitch.offset ps.toList dflt x.toInt = off) (ht : (pc : Int) + off = (tgt : Int)) (k : Z B (tgt) lv (st) h ce sl) : Z B pc lv (.int x :: st) h ce sl := by
  intro p e R s m args below meth c g Qf hF hO H locs ls hH hS hl0
  exact lv_lookup hO.1 hO.2.1 hd hp ho ht (k p e R s m args below meth c g Qf hF hO H locs ls hH hS hl0)
theorem z_tableOut {dflt lo hi : Int} {offs : Array Int} {len : Nat} {x : Int32} (tgt : Nat) (hd : decode (zbc B) pc = .ok (.tableswitch dflt lo hi offs, len)) (h1 : x.toInt < lo ∨ hi < x.toInt) (ht : (pc : Int) + dflt = (tgt : Int)) (k : Z B (tgt) lv (st) h ce sl) : Z B pc lv (.int x :: st) h ce sl := by
  intro p e R s m args below meth c g Qf hF hO H locs ls hH hS hl0
  exact lv_tableOut hO.1 hO.2.1 hd h1 ht (k p e R s m args below meth c g Qf hF hO H locs ls hH hS hl0)
theorem z_tableIn {dflt lo hi : Int} {offs : Array Int} {len : Nat} {x : Int32} {off : Int} (tgt : Nat) (hd : decode (zbc B) pc = .ok (.tableswitch dflt lo hi offs, len)) (h1 : ¬ x.toInt < lo) (h2 : ¬ hi < x.toInt) (ho : offs[(x.toInt - lo).toNat]? = some off) (ht : (pc : Int) + off = (tgt : Int)) (k : Z B (tgt) lv (st) h ce sl) : Z B pc lv (.int x :: st) h ce sl := by
  intro p e R s m args below meth c g Qf hF hO H locs ls hH hS hl0
  exact lv_tableIn hO.1 hO.2.1 hd h1 h2 ho ht (k p e R s m args below meth c g Qf hF hO H locs ls hH hS hl0)
theorem z_topi {x : Int32} (k : ∀ y : Int32, y = x → Z B pc lv (.int y :: st) h ce sl) : Z B pc lv (.int x :: st) h ce sl := k x rfl
theorem z_topl {x : Int64} (k : ∀ y : Int64, y = x → Z B pc lv (.long y :: st) h ce sl) : Z B pc lv (.long x :: st) h ce sl := k x rfl
theorem z_eq {st' : List Value} {h' : zH} (h1 : st = st') (h2 : h = h') (k : Z B pc lv st' h' ce sl) : Z B pc lv st h ce sl := by subst h1; subst h2; exact k
end ZI

/-! arrays, fields, calls, answers -/
theorem zO.K {g : zG} {s : State} {h : zH} {H : Heap} (hK : zK g s) (hO : zO g s h H) {k : Nat} {ty : FieldType} {x : vp_A} (he : h[k]? = some (.inl (ty, x))) : va_K g.2.1 vwCl [(zkap g ty, ty)] s := by
  refine ⟨hK.1.1, fun i q hi => ?_⟩
  have hz : i < 1 := (List.getElem?_eq_some_iff.mp hi).1
  rw [show i = 0 by omega] at hi
  cases hi
  exact hO.2.2.2 k ty x he
/-- a cell anew -/
theorem zO.set {g : zG} {s : State} {h : zH} {H H1 : Heap} {q : Nat} {e0 e1 : zE} (hO : zO g s h H) (he : h[q]? = some e0) (ht : ∀ ty x, e1 = .inl (ty, x) → ∃ x0, e0 = .inl (ty, x0)) (hz : H1.size = H.size) (ha : va_at g.2.1 vwCl (za g q, zc g e1) H1) (oq : ∀ a : Nat, a ≠ za g q → H1[a]? = H[a]?) : zO g s (h.set q e1) H1 := by
  obtain ⟨h1, h2, h3, h4⟩ := hO
  refine ⟨by rw [← zw_set]; exact h1.set (zD h3) (zw_get he) ha oq, by rw [hz, h2, List.length_set], by rw [List.length_set]; exact h3, fun k ty x hk => ?_⟩
  by_cases hkq : q = k
  · subst hkq
    rw [List.getElem?_set_self (List.getElem?_eq_some_iff.mp he).1] at hk
    obtain ⟨x0, hx0⟩ := ht ty x (Option.some.inj hk)
    subst hx0
    exact h4 _ ty x0 he
  · rw [List.getElem?_set_ne hkq] at hk
    exact h4 k ty x hk
theorem zA_at {g : zG} {s : State} {h : zH} {H : Heap} {q : Nat} {e0 : zE} (hO : zO g s h H) (he : h[q]? = some e0) : zA g (za g q) := by
  have hlt := (List.getElem?_eq_some_iff.mp he).1
  show zbase g ≤ za g q
  rw [za_lt (Nat.lt_of_lt_of_le hlt hO.2.2.1)]
  omega
section ZA
variable {B : zB} {pc : Nat} {lv lv' : zL} {st : List Value} {h : zH} {ce sl : Nat}
theorem z_alen {q : Nat} {ty : FieldType} {x : vp_A} (v : Int32) (hd : decode (zbc B) pc = .ok (.arraylength, 1)) (he : h[q]? = some (.inl (ty, x))) (hv : Int32.ofNat x.1 = v) (k : Z B (pc + 1) lv (.int v :: st) h ce sl) : Z B pc lv (.ref q :: st) h ce sl := by
  intro p e R s m args below meth c g Qf hF hO H locs ls hH hS hl0
  exact va_alen hO.1 hO.2.1 (hH.K hO.2.2.2.2.2.2.2.2.2.2.2.2.1 he) hH.1 q 0 (zw_get he) rfl hv hd (k p e R s m args below meth c g Qf hF hO H locs ls hH hS hl0)

theorem z_iald {q n : Nat} {f : Nat → Int32} {i : Int32} (hd : decode (zbc B) pc = .ok (.iaload, 1)) (he : h[q]? = some (.inl (.int, n, .inl f))) (hin : vp_in i n) (k : Z B (pc + 1) lv (.int (f i.toNatClampNeg) :: st) h ce sl) : Z B pc lv (.int i :: .ref q :: st) h ce sl := by
  intro p e R s m args below meth c g Qf hF hO H locs ls hH hS hl0
  exact va_iald hO.1 hO.2.1 (hH.K hO.2.2.2.2.2.2.2.2.2.2.2.2.1 he) hH.1 q 0 (zw_get he) rfl hin hd (k p e R s m args below meth c g Qf hF hO H locs ls hH hS hl0)
theorem z_bald {q n : Nat} {f : Nat → Int32} {i : Int32} (hd : decode (zbc B) pc = .ok (.baload, 1)) (he : h[q]? = some (.inl (.byte, n, .inl f))) (hin : vp_in i n) (k : Z B (pc + 1) lv (.int (f i.toNatClampNeg) :: st) h ce sl) : Z B pc lv (.int i :: .ref q :: st) h ce sl := by
  intro p e R s m args below meth c g Qf hF hO H locs ls hH hS hl0
  exact va_bald hO.1 hO.2.1 (hH.K hO.2.2.2.2.2.2.2.2.2.2.2.2.1 he) hH.1 q 0 (zw_get he) rfl hin hd (k p e R s m args below meth c g Qf hF hO H locs ls hH hS hl0)
theorem z_zald {q n : Nat} {f : Nat → Int32} {i : Int32} (hd : decode (zbc B) pc = .ok (.baload, 1)) (he : h[q]? = some (.inl (.boolean, n, .inl f))) (hin : vp_in i n) (k : Z B (pc + 1) lv (.int (f i.toNatClampNeg) :: st) h ce sl) : Z B pc lv (.int i :: .ref q :: st) h ce sl := by
  intro p e R s m args below meth c g Qf hF hO H locs ls hH hS hl0
  exact va_zald hO.1 hO.2.1 (hH.K hO.2.2.2.2.2.2.2.2.2.2.2.2.1 he) hH.1 q 0 (zw_get he) rfl hin hd (k p e R s m args below meth c g Qf hF hO H locs ls hH hS hl0)
theorem z_cald {q n : Nat} {f : Nat → Int32} {i : Int32} (hd : decode (zbc B) pc = .ok (.caload, 1)) (he : h[q]? = some (.inl (.char, n, .inl f))) (hin : vp_in i n) (k : Z B (pc + 1) lv (.int (f i.toNatClampNeg) :: st) h ce sl) : Z B pc lv (.int i :: .ref q :: st) h ce sl := by
  intro p e R s m args below meth c g Qf hF hO H locs ls hH hS hl0
  exact va_cald hO.1 hO.2.1 (hH.K hO.2.2.2.2.2.2.2.2.2.2.2.2.1 he) hH.1 q 0 (zw_get he) rfl hin hd (k p e R s m args below meth c g Qf hF hO H locs ls hH hS hl0)
theorem z_sald {q n : Nat} {f : Nat → Int32} {i : Int32} (hd : decode (zbc B) pc = .ok (.saload, 1)) (he : h[q]? = some (.inl (.short, n, .inl f))) (hin : vp_in i n) (k : Z B (pc + 1) lv (.int (f i.toNatClampNeg) :: st) h ce sl) : Z B pc lv (.int i :: .ref q :: st) h ce sl := by
  intro p e R s m args below meth c g Qf hF hO H locs ls hH hS hl0
  exact va_sald hO.1 hO.2.1 (hH.K hO.2.2.2.2.2.2.2.2.2.2.2.2.1 he) hH.1 q 0 (zw_get he) rfl hin hd (k p e R s m args below meth c g Qf hF hO H locs ls hH hS hl0)
theorem z_lald {q n : Nat} {f : Nat → Int64} {i : Int32} (hd : decode (zbc B) pc = .ok (.laload, 1)) (he : h[q]? = some (.inl (.long, n, .inr (.inl f)))) (hin : vp_in i n) (k : Z B (pc + 1) lv (.long (f i.toNatClampNeg) :: st) h ce sl) : Z B pc lv (.int i :: .ref q :: st) h ce sl := by
  intro p e R s m args below meth c g Qf hF hO H locs ls hH hS hl0
  exact va_lald hO.1 hO.2.1 (hH.K hO.2.2.2.2.2.2.2.2.2.2.2.2.1 he) hH.1 q 0 (zw_get he) rfl hin hd (k p e R s m args below meth c g Qf hF hO H locs ls hH hS hl0)
theorem z_iast {q n : Nat} {f : Nat → Int32} {i x : Int32} (hd : decode (zbc B) pc = .ok (.iastore, 1)) (he : h[q]? = some (.inl (.int, n, .inl f))) (hin : vp_in i n) (k : Z B (pc + 1) lv st (h.set q (.inl (.int, n, .inl (upd f i.toNatClampNeg x)))) ce sl) : Z B pc lv (.int x :: .int i :: .ref q :: st) h ce sl := by
  intro p e R s m args below meth c g Qf hF hO H locs ls hH hS hl0
  have hK1 := hH.K hO.2.2.2.2.2.2.2.2.2.2.2.2.1 he
  refine W.iast hO.1 hO.2.1 (hH.1 q _ (zw_get he)) ((hK1.2 0 _ rfl).1 n (fun j => .int (f j))) (fun q => by cases q) (by show ¬ (i < 0 ∨ (arrV _ _ _).slots.size ≤ _); rw [arrV_size]; exact hin) rfl rfl hd fun H1 e1 z oq => ?_
  refine k p e R s m args below meth c g Qf hF hO H1 _ ls (hH.set he (fun ty x0 h0 => ?_) z ?_ oq) (hS.put z oq (zA_at hH he)) hl0
  · cases h0
    exact ⟨_, rfl⟩
  · show H1[za g q]? = some (vp_cell _ _)
    rw [e1]
    show some ((vp_cell _ (n, .inl f)).setSlot _ _) = some (vp_cell _ (n, .inl _))
    rw [vp_cell_i, vp_cell_i, arrV_store]
    congr 2
    funext j
    by_cases hq : j = i.toNatClampNeg
    · subst hq
      simp [updV, upd, vp_nar]
      try rfl
    · simp [updV, upd, hq]
theorem z_bast {q n : Nat} {f : Nat → Int32} {i x : Int32} (hd : decode (zbc B) pc = .ok (.bastore, 1)) (he : h[q]? = some (.inl (.byte, n, .inl f))) (hin : vp_in i n) (k : Z B (pc + 1) lv st (h.set q (.inl (.byte, n, .inl (upd f i.toNatClampNeg (vp_nar .byte x))))) ce sl) : Z B pc lv (.int x :: .int i :: .ref q :: st) h ce sl := by
  intro p e R s m args below meth c g Qf hF hO H locs ls hH hS hl0
  have hK1 := hH.K hO.2.2.2.2.2.2.2.2.2.2.2.2.1 he
  refine W.bast hO.1 hO.2.1 (hH.1 q _ (zw_get he)) ((hK1.2 0 _ rfl).1 n (fun j => .int (f j))) (fun q => by cases q) (by show ¬ (i < 0 ∨ (arrV _ _ _).slots.size ≤ _); rw [arrV_size]; exact hin) rfl rfl hd fun H1 e1 z oq => ?_
  refine k p e R s m args below meth c g Qf hF hO H1 _ ls (hH.set he (fun ty x0 h0 => ?_) z ?_ oq) (hS.put z oq (zA_at hH he)) hl0
  · cases h0
    exact ⟨_, rfl⟩
  · show H1[za g q]? = some (vp_cell _ _)
    rw [e1]
    show some ((vp_cell _ (n, .inl f)).setSlot _ _) = some (vp_cell _ (n, .inl _))
    rw [vp_cell_i, vp_cell_i, arrV_store]
    congr 2
    funext j
    by_cases hq : j = i.toNatClampNeg
    · subst hq
      simp [updV, upd, vp_nar]
      try rfl
    · simp [updV, upd, hq]
theorem z_zast {q n : Nat} {f : Nat → Int32} {i x : Int32} (hd : decode (zbc B) pc = .ok (.bastore, 1)) (he : h[q]? = some (.inl (.boolean, n, .inl f))) (hin : vp_in i n) (k : Z B (pc + 1) lv st (h.set q (.inl (.boolean, n, .inl (upd f i.toNatClampNeg (vp_nar .boolean x))))) ce sl) : Z B pc lv (.int x :: .int i :: .ref q :: st) h ce sl := by
  intro p e R s m args below meth c g Qf hF hO H locs ls hH hS hl0
  have hK1 := hH.K hO.2.2.2.2.2.2.2.2.2.2.2.2.1 he
  refine W.zast hO.1 hO.2.1 (hH.1 q _ (zw_get he)) ((hK1.2 0 _ rfl).1 n (fun j => .int (f j))) (fun q => by cases q) (by show ¬ (i < 0 ∨ (arrV _ _ _).slots.size ≤ _); rw [arrV_size]; exact hin) rfl rfl hd fun H1 e1 z oq => ?_
  refine k p e R s m args below meth c g Qf hF hO H1 _ ls (hH.set he (fun ty x0 h0 => ?_) z ?_ oq) (hS.put z oq (zA_at hH he)) hl0
  · cases h0
    exact ⟨_, rfl⟩
  · show H1[za g q]? = some (vp_cell _ _)
    rw [e1]
    show some ((vp_cell _ (n, .inl f)).setSlot _ _) = some (vp_cell _ (n, .inl _))
    rw [vp_cell_i, vp_cell_i, arrV_store]
    congr 2
    funext j
    by_cases hq : j = i.toNatClampNeg
    · subst hq
      simp [updV, upd, vp_nar]
      try rfl
    · simp [updV, upd, hq]
theorem z_cast {q n : Nat} {f : Nat → Int32} {i x : Int32} (hd : decode (zbc B) pc = .ok (.castore, 1)) (he : h[q]? = some (.inl (.char, n, .inl f))) (hin : vp_in i n) (k : Z B (pc + 1) lv st (h.set q (.inl (.char, n, .inl (upd f i.toNatClampNeg (vp_nar .char x))))) ce sl) : Z B pc lv (.int x :: .int i :: .ref q :: st) h ce sl := by
  intro p e R s m args below meth c g Qf hF hO H locs ls hH hS hl0
  have hK1 := hH.K hO.2.2.2.2.2.2.2.2.2.2.2.2.1 he
  refine W.cast hO.1 hO.2.1 (hH.1 q _ (zw_get he)) ((hK1.2 0 _ rfl).1 n (fun j => .int (f j))) (fun q => by cases q) (by show ¬ (i < 0 ∨ (arrV _ _ _).slots.size ≤ _); rw [arrV_size]; exact hin) rfl rfl hd fun H1 e1 z oq => ?_
  refine k p e R s m args below meth c g Qf hF hO H1 _ ls (hH.set he (fun ty x0 h0 => ?_) z ?_ oq) (hS.put z oq (zA_at hH he)) hl0
  · cases h0
    exact ⟨_, rfl⟩
  · show H1[za g q]? = some (vp_cell _ _)
    rw [e1]
    show some ((vp_cell _ (n, .inl f)).setSlot _ _) = some (vp_cell _ (n, .inl _))
    rw [vp_cell_i, vp_cell_i, arrV_store]
    congr 2
    funext j
    by_cases hq : j = i.toNatClampNeg
    · subst hq
      simp [updV, upd, vp_nar]
      try rfl
    · simp [updV, upd, hq]
theorem z_last {q n : Nat} {f : Nat → Int64} {i : Int32} {x : Int64} (hd : decode (zbc B) pc = .ok (.lastore, 1)) (he : h[q]? = some (.inl (.long, n, .inr (.inl f)))) (hin : vp_in i n) (k : Z B (pc + 1) lv st (h.set q (.inl (.long, n, .inr (.inl (fun j => if j = i.toNatClampNeg then x else f j))))) ce sl) : Z B pc lv (.long x :: .int i :: .ref q :: st) h ce sl := by
  intro p e R s m args below meth c g Qf hF hO H locs ls hH hS hl0
  have hK1 := hH.K hO.2.2.2.2.2.2.2.2.2.2.2.2.1 he
  refine W.last hO.1 hO.2.1 (hH.1 q _ (zw_get he)) ((hK1.2 0 _ rfl).1 n (fun j => .long (f j))) (fun q => by cases q) (by show ¬ (i < 0 ∨ (arrV _ _ _).slots.size ≤ _); rw [arrV_size]; exact hin) rfl rfl hd fun H1 e1 z oq => ?_
  refine k p e R s m args below meth c g Qf hF hO H1 _ ls (hH.set he (fun ty x0 h0 => ?_) z ?_ oq) (hS.put z oq (zA_at hH he)) hl0
  · cases h0
    exact ⟨_, rfl⟩
  · show H1[za g q]? = some (vp_cell _ _)
    rw [e1]
    show some ((vp_cell _ (n, .inr (.inl f))).setSlot _ _) = some (vp_cell _ (n, .inr (.inl _)))
    rw [vp_cell_l, vp_cell_l, arrV_store]
    congr 2
    funext j
    by_cases hq : j = i.toNatClampNeg
    · subst hq
      simp [updV]
    · simp [updV, hq]
end ZA
/-! calls -/
theorem zPz_blind (g : zG) (av : List Value) (h : zH) : FrameBlind (zPz g av h) := fun a U gg mk q =>
  ⟨q.1, zK.same (u := U) (U := U.calling gg mk a) rfl rfl q.2.1, zO.moved (u := U) (U := U.calling gg mk a) (Vm.Alike.refl U.vm) q.2.2⟩
theorem zPz_pre {g : zG} {s : State} {h : zH} {H : Heap} {locs : List Loc} (av : List Value) (hK : zK g s) (hO : zO g s h H) (hS : va_S (zA g) s.heap H locs) : ∀ U : State, U.heap = H → s.WarmedH U.vm → zPz g av h (av.map (zv g)).toArray U := fun U hU hW =>
  ⟨rfl, hK.moved hW (by rw [hU]; exact ⟨hS.1, hS.2.1, fun _ h => by cases h⟩), by rw [hU]; exact hO.moved hW.alike⟩
theorem z_run {p : Program} {e : Env} {R : Room} {s : State} {m : MethodId} {args : Array Value} {below : List Frame} {meth : Method} {c : Code} {g : zG} {Qf : State → Prop} {H : Heap} {locs : List Loc} {ce sl mc ms pc : Nat} {ls : Array Slot} {st0 rest : List Value} {Q : Option Value → zH → Prop} {a : Array Value}
    (hr : va_Run p g.1 e R s m args below meth c H locs ce sl mc ms (F0 m pc ls st0) rest (zQz g Q a) (zA g)) (hS : va_S (zA g) s.heap H locs)
    (kk : ∀ (r : Option Value) (h1 : zH) (H1 : Heap) (locs1 : List Loc), Q r h1 → zO g s h1 H1 → va_S (zA g) s.heap H1 locs1 → W p g.1 e R s m args below meth c H1 locs1 (ce + mc) (sl + ms) Qf (F0 m (pc + 3) ls ((r.map (zv g)).toList ++ rest))) : W p g.1 e R s m args below meth c H locs ce sl Qf (F0 m pc ls st0) := by
  intro T hT X
  obtain ⟨v, st₀, t, T', L, h0, X', hL, e1, e2, ⟨⟨r, h1, hv, hq, hO⟩, hz, hk⟩, st⟩ := hr T hT X
  cases hv
  rw [h0] at hz hk
  have hal : s.vm.Alike t.vm := by rw [← e2]; exact X'.warmed.alike
  obtain ⟨t2, a1, b1⟩ := kk r h1 T'.heap (locs ++ L) hq (by rw [e1]; exact hO.moved hal.symm)
    ⟨Nat.le_trans hS.1 (by rw [e1]; exact hz), fun q h1 h2 => by rw [e1, hk q (Nat.lt_of_lt_of_le h1 hS.1) h2]; exact hS.2.1 q h1 h2, fun q hq => by
      rcases List.mem_append.mp hq with h | h
      · exact hS.2.2 q h
      · exact hL q h⟩ T' rfl X'
  exact ⟨t2, st t2 a1, b1⟩
theorem z_ret_list (g : zG) (r : Option Value) (st : List Value) : (r.map (zv g)).toList ++ st.map (zv g) = (r.toList ++ st).map (zv g) := by cases r <;> simp
theorem z_cat (g : zG) (st : List Value) : ((st.map (zv g)).map fun v => v.category) = st.map fun v => v.category := by
  simp [Function.comp_def, zv_cat]
/-- what a call of Mj, at the entry idx of own's pool, needs of the tables, whatever the kind -/
def zCall (own : String) (idx : Nat) (Mj : zM) (n : Nat) : Prop := zcw Mj ∈ zT ∧ Cond.initialized (zy Mj).cls ∈ zT ∧ ((zy Mj).cls ≠ "java/lang/invoke/MethodHandle" ∧ (zy Mj).cls ≠ "java/lang/invoke/VarHandle" ∧ (parseMethodDescriptor (zy Mj).desc).map (fun d => d.parameters.length) = some n) ∧ zmL Mj ≤ 41 ∧ (Cond.methodLink own idx (zy Mj) ∈ zT ∨ ∃ host, Cond.methodLinkNest own idx (zy Mj) host ∈ zNW)
def zCallS (own : String) (idx : Nat) (Mj : zM) (n : Nat) : Prop := zCall own idx Mj n ∧ Cond.static (zy Mj) ∈ zT
def zCallV (own : String) (idx : Nat) (Mj : zM) (n : Nat) : Prop := zCall own idx Mj n ∧ Cond.instanceMethod (zy Mj) ∈ zT ∧ Cond.selects (zy Mj).cls (zy Mj) (zy Mj) ∈ zT
def zCallI (own : String) (idx : Nat) (Mj : zM) (n : Nat) : Prop := zCall own idx Mj n ∧ Cond.instanceMethod (zy Mj) ∈ zT ∧ (zy Mj).name = "<init>" ∧ zrt Mj = none
theorem zG1 {w : Cond} (h : w ∈ zT) : w ∈ zT ∧ ((w.onTables && w.keeps) = true ∨ ∃ ty, w = .arrayClass ty) := ⟨h, good_of_word (zgood h)⟩
theorem zGi {M : zM} (h : zcw M ∈ zT) : GoodIn zT (zws M) := fun w hw => by
  rcases List.mem_cons.mp hw with rfl | hw
  · exact zG1 h
  · exact zG1 hw
theorem z_fit {D : Nat} {Mj : zM} {R : Room} {d mc ms : Nat} (h1 : D ≤ R.frames) (h2 : 60 * D ≤ R.locals) (hd : d + 1 ≤ D) (hm : zmL Mj ≤ 41) : (zrm d mc ms).frames + 1 ≤ R.frames ∧ 8 + (zmL Mj + 11) + (zrm d mc ms).locals ≤ R.locals := by
  refine ⟨Nat.le_trans hd h1, ?_⟩
  show 8 + (zmL Mj + 11) + 60 * d ≤ R.locals
  omega
section ZC
variable {B : zB} {pc : Nat} {lv : zL} {st : List Value} {h : zH} {ce sl : Nat}
theorem z_callS {Mj : zM} {d mc ms idx n : Nat} {Q : Option Value → zH → Prop} (av : List Value) (hw : zCallS (zy (zbM B)).cls idx Mj n) (hE : Ev Mj d mc ms av h Q) (hd : decode (zbc B) pc = .ok (.invokestatic idx, 3)) (hn : av.length = n) (hst : (st.map fun v => v.category).sum ≤ 8) (hD : d + 1 ≤ zbD B) (hc : ce + mc ≤ B.2.2.1) (hs : sl + ms ≤ B.2.2.2.1)
    (k : ∀ (r : Option Value) (h1 : zH), Q r h1 → Z B (pc + 3) lv (r.toList ++ st) h1 (ce + mc) (sl + ms)) : Z B pc lv (av.reverse ++ st) h ce sl := by
  intro p e R s m args below meth c g Qf hF hO H locs ls hH hS hl0
  obtain ⟨hx, hcd, hml, hown, hts, -, -, -, hf1, hf2, hf3, hf4, hK, -⟩ := id hO
  obtain ⟨⟨w1, w2, hyd, hm, hl⟩, w3⟩ := hw
  rcases hl with hl | ⟨host, hl⟩
  · have hG : GoodIn zT (va_wsS (zy (zbM B)).cls idx (zy Mj) (zws Mj)) := fun w hw => by
      rcases List.mem_append.mp hw with hw | hw
      · rcases List.mem_cons.mp hw with rfl | hw
        · exact zG1 hl
        · rcases List.mem_cons.mp hw with rfl | hw
          · exact zG1 w3
          · rw [List.mem_singleton.mp hw]; exact zG1 w2
      · exact zGi w1 w hw
    refine z_run (va_runS (As := av.map (zv g)) (rest := st.map (zv g)) ⟨hx, hcd, hml, hown, hts⟩ (hE g) (va_cwS n hts hG rfl rfl rfl hyd (z_fit hf1 hf2 hD hm)) ⟨zPz_blind g av h, zPz_pre av hK hH hS⟩ rfl (by rw [List.length_map]; exact hn) hl0.1 (by simp [zv_ref]) (lv_room (by rw [z_cat]; exact hst)) hd ⟨Nat.le_trans hc hf3, Nat.le_trans hs hf4⟩) hS fun r h1 H1 locs1 hq hO1 hS1 => ?_
    rw [z_ret_list]
    exact k r h1 hq p e R s m args below meth c g Qf hF hO H1 locs1 ls hO1 hS1 hl0
  · refine z_run (va_runSN (As := av.map (zv g)) (rest := st.map (zv g)) ⟨hx, hcd, hml, hown, hts⟩ (hE g) ⟨va_cnB n hts (zGi w1) rfl rfl rfl (hK.2.2.1 _ hl) (hts _ w2) hyd (z_fit hf1 hf2 hD hm), hts _ w3, trivial⟩ ⟨zPz_blind g av h, zPz_pre av hK hH hS⟩ rfl (by rw [List.length_map]; exact hn) hl0.1 (by simp [zv_ref]) (lv_room (by rw [z_cat]; exact hst)) hd ⟨Nat.le_trans hc hf3, Nat.le_trans hs hf4⟩) hS fun r h1 H1 locs1 hq hO1 hS1 => ?_
    rw [z_ret_list]
    exact k r h1 hq p e R s m args below meth c g Qf hF hO H1 locs1 ls hO1 hS1 hl0
theorem z_callV {Mj : zM} {d mc ms idx n q ci N : Nat} {T : u_T} {fs : List Value} {Q : Option Value → zH → Prop} (av : List Value) (hw : zCallV (zy (zbM B)).cls idx Mj n) (hE : Ev Mj d mc ms (.ref q :: av) h Q) (hci : vwCl[ci]? = some ((zy Mj).cls, T, N)) (hd : decode (zbc B) pc = .ok (.invokevirtual idx, 3)) (hq : h[q]? = some (.inr (ci, fs))) (hn : av.length = n) (hst : (st.map fun v => v.category).sum ≤ 8) (hD : d + 1 ≤ zbD B) (hc : ce + mc ≤ B.2.2.1) (hs : sl + ms ≤ B.2.2.2.1)
    (k : ∀ (r : Option Value) (h1 : zH), Q r h1 → Z B (pc + 3) lv (r.toList ++ st) h1 (ce + mc) (sl + ms)) : Z B pc lv (av.reverse ++ .ref q :: st) h ce sl := by
  intro p e R s m args below meth c g Qf hF hO H locs ls hH hS hl0
  obtain ⟨hx, hcd, hml, hown, hts, -, -, -, hf1, hf2, hf3, hf4, hK, -⟩ := id hO
  obtain ⟨⟨w1, w2, hyd, hm, hl⟩, w3, w4⟩ := hw
  have hr := va_recv hK.1 hH.1 hci (zw_get (g := g) hq)
  rcases hl with hl | ⟨host, hl⟩
  · have hG : GoodIn zT (wsV (zy (zbM B)).cls idx (zy Mj).cls (zy Mj) (zws Mj)) := fun w hw => by
      rcases List.mem_append.mp hw with hw | hw
      · rcases List.mem_cons.mp hw with rfl | hw
        · exact zG1 hl
        · rcases List.mem_cons.mp hw with rfl | hw
          · exact zG1 w3
          · rcases List.mem_cons.mp hw with rfl | hw
            · exact zG1 w4
            · rw [List.mem_singleton.mp hw]; exact zG1 w2
      · exact zGi w1 w hw
    refine z_run (va_runV (C := (zy Mj).cls) (b := za g q) (As := av.map (zv g)) (rest := st.map (zv g)) ⟨hx, hcd, hml, hown, hts⟩ (hE g) (cwV n hts hG rfl rfl rfl ⟨rfl, hyd⟩ (z_fit hf1 hf2 hD hm)) ⟨zPz_blind g _ h, hr, zPz_pre (.ref q :: av) hK hH hS⟩ rfl (by rw [List.length_map]; exact hn) hl0.1 (by simp [zv_ref]) (lv_room (by rw [z_cat]; exact hst)) hd ⟨Nat.le_trans hc hf3, Nat.le_trans hs hf4⟩) hS fun r h1 H1 locs1 hq hO1 hS1 => ?_
    rw [z_ret_list]
    exact k r h1 hq p e R s m args below meth c g Qf hF hO H1 locs1 ls hO1 hS1 hl0
  · refine z_run (va_runVN (C := (zy Mj).cls) (b := za g q) (As := av.map (zv g)) (rest := st.map (zv g)) ⟨hx, hcd, hml, hown, hts⟩ (hE g) ⟨va_cnB n hts (zGi w1) rfl rfl rfl (hK.2.2.1 _ hl) (hts _ w2) hyd (z_fit hf1 hf2 hD hm), hts _ w3, hts _ w4⟩ ⟨zPz_blind g _ h, hr, zPz_pre (.ref q :: av) hK hH hS⟩ rfl (by rw [List.length_map]; exact hn) hl0.1 (by simp [zv_ref]) (lv_room (by rw [z_cat]; exact hst)) hd ⟨Nat.le_trans hc hf3, Nat.le_trans hs hf4⟩) hS fun r h1 H1 locs1 hq hO1 hS1 => ?_
    rw [z_ret_list]
    exact k r h1 hq p e R s m args below meth c g Qf hF hO H1 locs1 ls hO1 hS1 hl0
theorem z_callI {Mj : zM} {d mc ms idx n q : Nat} {Q : Option Value → zH → Prop} (av : List Value) (hw : zCallI (zy (zbM B)).cls idx Mj n) (hE : Ev Mj d mc ms (.ref q :: av) h Q) (hd : decode (zbc B) pc = .ok (.invokespecial idx, 3)) (hn : av.length = n) (hst : (st.map fun v => v.category).sum ≤ 8) (hD : d + 1 ≤ zbD B) (hc : ce + mc ≤ B.2.2.1) (hs : sl + ms ≤ B.2.2.2.1)
    (k : ∀ (r : Option Value) (h1 : zH), Q r h1 → Z B (pc + 3) lv (r.toList ++ st) h1 (ce + mc) (sl + ms)) : Z B pc lv (av.reverse ++ .ref q :: st) h ce sl := by
  intro p e R s m args below meth c g Qf hF hO H locs ls hH hS hl0
  obtain ⟨hx, hcd, hml, hown, hts, -, -, -, hf1, hf2, hf3, hf4, hK, -⟩ := id hO
  obtain ⟨⟨w1, w2, hyd, hm, hl⟩, w3, hy1, hrt⟩ := hw
  have hcode : zws Mj = Cond.code (zy Mj) (zcc Mj) (zmL Mj) none :: zT := by rw [← hrt]; rfl
  rcases hl with hl | ⟨host, hl⟩
  · refine z_run (va_runI (b := za g q) (As := av.map (zv g)) (rest := st.map (zv g)) ⟨hx, hcd, hml, hown, hts⟩ (hE g) (cwI n hts (zGi w1) hcode rfl rfl (hts _ w2) (hts _ hl) (hts _ w3) hy1 hyd (z_fit hf1 hf2 hD hm)) ⟨zPz_blind g _ h, zPz_pre (.ref q :: av) hK hH hS⟩ rfl (by rw [List.length_map]; exact hn) hl0.1 (by simp [zv_ref]) (lv_room (by rw [z_cat]; exact hst)) hd ⟨Nat.le_trans hc hf3, Nat.le_trans hs hf4⟩) hS fun r h1 H1 locs1 hq hO1 hS1 => ?_
    rw [z_ret_list]
    exact k r h1 hq p e R s m args below meth c g Qf hF hO H1 locs1 ls hO1 hS1 hl0
  · refine z_run (va_runIN (b := za g q) (As := av.map (zv g)) (rest := st.map (zv g)) ⟨hx, hcd, hml, hown, hts⟩ (hE g) ⟨va_cnB n hts (zGi w1) hcode rfl rfl (hK.2.2.1 _ hl) (hts _ w2) hyd (z_fit hf1 hf2 hD hm), hy1, hts _ w3⟩ ⟨zPz_blind g _ h, zPz_pre (.ref q :: av) hK hH hS⟩ rfl (by rw [List.length_map]; exact hn) hl0.1 (by simp [zv_ref]) (lv_room (by rw [z_cat]; exact hst)) hd ⟨Nat.le_trans hc hf3, Nat.le_trans hs hf4⟩) hS fun r h1 H1 locs1 hq hO1 hS1 => ?_
    rw [z_ret_list]
    exact k r h1 hq p e R s m args below meth c g Qf hF hO H1 locs1 ls hO1 hS1 hl0
/-- Object's own constructor -/
theorem z_objInit {q idx : Nat} (hl : Cond.methodLink (zy (zbM B)).cls idx Lib.objectInit ∈ zT) (hi : Cond.instanceMethod Lib.objectInit ∈ zT) (hc : Cond.code Lib.objectInit ⟨#[0xb1]⟩ 1 none ∈ zT) (hd : decode (zbc B) pc = .ok (.invokespecial idx, 3)) (hst : (st.map fun v => v.category).sum ≤ 8) (hD : 1 ≤ zbD B) (k : Z B (pc + 3) lv st h ce sl) : Z B pc lv (.ref q :: st) h ce sl := by
  intro p e R s m args below meth c g Qf hF hO H locs ls hH hS hl0
  obtain ⟨hx, hcd, hml, hown, hts, -, -, -, hf1, hf2, hf3, hf4, hK, -⟩ := id hO
  refine W.objInit hx hcd hown (hts _ hl) (hts _ hi) (hts _ hc) rfl (hl0.1.trans hml.symm) rfl hd (Nat.le_trans hD hf1) ?_ (k p e R s m args below meth c g Qf hF hO H locs ls hH hS hl0)
  have h8 : 2 * (F0 m pc ls (st.map (zv g))).monitorRoom + ((st.map (zv g)).map fun v => v.category).sum ≤ 8 := lv_room (rest := st.map (zv g)) (by rw [z_cat]; exact hst)
  have h10 : 60 * 1 ≤ R.locals := Nat.le_trans (Nat.mul_le_mul_left 60 hD) hf2
  show 2 * 0 + ((st.map (zv g)).map fun v => v.category).sum + 12 ≤ R.locals
  have h11 : 2 * 0 + ((st.map (zv g)).map fun v => v.category).sum ≤ 8 := h8
  omega
end ZC
/-! answers, and the contract out of the frame -/
def zFm (Q : Option Value → zH → Prop) (mc ms : Nat) : zF := fun _ _ _ s _ args below _ _ g Qf => Qf = MQ below (zQz g Q) args s mc ms (zA g)
theorem zQz_of {g : zG} {Q : Option Value → zH → Prop} {s t : State} {args : Array Value} {h : zH} {H : Heap} {locs : List Loc} {r : Option Value} {v : Option Value} (hv : v = r.map (zv g)) (hq : Q r h) (hO : zO g s h H) (hS : va_S (zA g) s.heap H locs) (ht : t.heap = H) (hW : s.WarmedH t.vm) : zQz g Q args s (.returned v) t := by
  subst hv
  exact ⟨⟨r, h, rfl, hq, by rw [ht]; exact hO.moved hW.alike⟩, hS.F ht⟩
section ZR
variable {D mc ms : Nat} {M : zM} {Q : Option Value → zH → Prop} {pc : Nat} {lv : zL} {h : zH} {ce sl : Nat}
theorem z_iret {v : Int32} (hd : decode (zcc M) pc = .ok (.ireturn, 1)) (hr : zrt M = some .int) (hc : ce ≤ mc) (hs : sl ≤ ms) (hq : Q (some (.int v)) h) : Z (zFm Q mc ms, D, mc, ms, M) pc lv [.int v] h ce sl := by
  intro p e R s m args below meth c g Qf hF hO H locs ls hH hS hl0
  rw [show Qf = _ from hF]
  refine W.widen hc hs ?_
  have hlocks := hO.2.2.2.2.2.1
  exact W.iret hO.1 hO.2.1 (hO.2.2.2.2.2.2.1.trans hr) (fun t ht hW => zQz_of (r := some (.int v)) rfl hq hH hS ht hW) hS.2.2 hd
theorem z_zret {v : Int32} (hd : decode (zcc M) pc = .ok (.ireturn, 1)) (hr : zrt M = some .boolean) (hn : narrow .boolean (.int v) = .int v) (hc : ce ≤ mc) (hs : sl ≤ ms) (hq : Q (some (.int v)) h) : Z (zFm Q mc ms, D, mc, ms, M) pc lv [.int v] h ce sl := by
  intro p e R s m args below meth c g Qf hF hO H locs ls hH hS hl0
  rw [show Qf = _ from hF]
  refine W.widen hc hs ?_
  have hlocks := hO.2.2.2.2.2.1
  exact W.zret hO.1 hO.2.1 (hO.2.2.2.2.2.2.1.trans hr) hn (fun t ht hW => zQz_of (r := some (.int v)) rfl hq hH hS ht hW) hS.2.2 hd
theorem z_lret {v : Int64} (hd : decode (zcc M) pc = .ok (.lreturn, 1)) (hr : zrt M = some .long) (hc : ce ≤ mc) (hs : sl ≤ ms) (hq : Q (some (.long v)) h) : Z (zFm Q mc ms, D, mc, ms, M) pc lv [.long v] h ce sl := by
  intro p e R s m args below meth c g Qf hF hO H locs ls hH hS hl0
  rw [show Qf = _ from hF]
  refine W.widen hc hs ?_
  have hlocks := hO.2.2.2.2.2.1
  exact W.lret hO.1 hO.2.1 (hO.2.2.2.2.2.2.1.trans hr) (fun t ht hW => zQz_of (r := some (.long v)) rfl hq hH hS ht hW) hS.2.2 hd
theorem z_vret (hd : decode (zcc M) pc = .ok (.return_, 1)) (hr : zrt M = none) (hc : ce ≤ mc) (hs : sl ≤ ms) (hq : Q none h) : Z (zFm Q mc ms, D, mc, ms, M) pc lv [] h ce sl := by
  intro p e R s m args below meth c g Qf hF hO H locs ls hH hS hl0
  rw [show Qf = _ from hF]
  refine W.widen hc hs ?_
  have hlocks := hO.2.2.2.2.2.1
  exact W.vret hO.1 hO.2.1 (hO.2.2.2.2.2.2.1.trans hr) (fun t ht hW => zQz_of (r := none) rfl hq hH hS ht hW) hS.2.2 hd
end ZR
theorem zargs (g : zG) (vs : List Value) : ∀ i, lv_args i (vs.map (zv g)) = zloc g (lv_args i vs) := by
  induction vs with
  | nil => intro i; rfl
  | cons v vs ih =>
    intro i
    show (i, zv g v) :: lv_args (if (zv g v).category = 2 then i + 2 else i + 1) (vs.map (zv g)) = (i, zv g v) :: zloc g (lv_args _ vs)
    rw [zv_cat, ih]
theorem zlgsl (g : zG) (vs : List Value) : (lg_sl (vs.map (zv g))).length = (lg_sl vs).length := by
  induction vs with
  | nil => rfl
  | cons v vs ih =>
    simp only [lg_sl, List.map_cons, List.flatMap_cons, List.length_append, zv_cat] at ih ⊢
    rw [ih]
    split <;> rfl
theorem Ev.of {M : zM} {d mc ms : Nat} {av : List Value} {h : zH} {Q : Option Value → zH → Prop} (hy : plainName (zy M).cls = true) (hlen : (lg_sl av).length ≤ zmL M)
    (body : Z (zFm Q mc ms, d, mc, ms, M) 0 (lv_args 0 av) [] h 0 0) : Ev M d mc ms av h Q := by
  intro g
  refine Met.ofW (cc := zcc M) (maxL := zmL M) (ret := zrt M) hy rfl ?_
  intro p e s m args below meth c s₁ BL hml hv
  obtain ⟨rfl, hK, hO⟩ := hv
  have hl := lv_entry (av.map (zv g)) (n := zmL M) (by rw [zlgsl]; exact hlen)
  rw [lg_entry_eq]
  rw [zargs] at hl
  refine body p e _ s m _ below meth c g _ rfl ⟨BL.exec, BL.bytes, hml, findClass_of_methodNamed BL.named, fun w hw => atoms_spec (ws := zws M) BL.pre w (List.mem_cons_of_mem _ hw), BL.notSynchronized, BL.returns, fun hn => by rw [← hn]; exact (name_of_methodNamed BL.named BL.method).1, Nat.le_refl _, Nat.le_refl _, Nat.le_refl _, Nat.le_refl _, hK, ?_⟩ s.heap [] _ hO va_S.rf hl
  rw [hO.2.1]
  exact Nat.le_add_right _ _
/-! Math's min, max, abs of ints -/
section ZMa
variable {B : zB} {pc : Nat} {lv : zL} {st : List Value} {h : zH} {ce sl : Nat}
theorem z_mmax {idx : Nat} {x y : Int32} (hl : Cond.methodLink (zy (zbM B)).cls idx Lib.Math.max.name ∈ zT) (h1 : Cond.static Lib.Math.max.name ∈ zT) (h2 : Cond.initialized "java/lang/Math" ∈ zT) (h3 : Cond.code Lib.Math.max.name Lib.Math.max.code 2 (some .int) ∈ zT) (hd : decode (zbc B) pc = .ok (.invokestatic idx, 3)) (hst : (st.map fun v => v.category).sum ≤ 8) (hD : 1 ≤ zbD B) (hc : ce ≤ B.2.2.1) (hs : sl ≤ B.2.2.2.1) (k : Z B (pc + 3) lv (.int (if x < y then y else x) :: st) h ce sl) : Z B pc lv (.int y :: .int x :: st) h ce sl := by
  intro p e R s m args below meth c g Qf hF hO H locs ls hH hS hl0
  obtain ⟨hx, hcd, hml, hown, hts, -, -, -, hf1, hf2, hf3, hf4, hK, -⟩ := id hO
  refine va_mmax hx hcd (hml.trans hl0.1.symm) hown (hts _ hl) (hts _ h1) (hts _ h2) (hts _ h3) (Nat.le_trans hD hf1) ?_ (Nat.le_trans hc hf3) (Nat.le_trans hs hf4) hd (k p e R s m args below meth c g Qf hF hO H locs ls hH hS hl0)
  rw [z_cat]
  omega
theorem z_mmin {idx : Nat} {x y : Int32} (hl : Cond.methodLink (zy (zbM B)).cls idx Lib.Math.min.name ∈ zT) (h1 : Cond.static Lib.Math.min.name ∈ zT) (h2 : Cond.initialized "java/lang/Math" ∈ zT) (h3 : Cond.code Lib.Math.min.name Lib.Math.min.code 2 (some .int) ∈ zT) (hd : decode (zbc B) pc = .ok (.invokestatic idx, 3)) (hst : (st.map fun v => v.category).sum ≤ 8) (hD : 1 ≤ zbD B) (hc : ce ≤ B.2.2.1) (hs : sl ≤ B.2.2.2.1) (k : Z B (pc + 3) lv (.int (if y < x then y else x) :: st) h ce sl) : Z B pc lv (.int y :: .int x :: st) h ce sl := by
  intro p e R s m args below meth c g Qf hF hO H locs ls hH hS hl0
  obtain ⟨hx, hcd, hml, hown, hts, -, -, -, hf1, hf2, hf3, hf4, hK, -⟩ := id hO
  refine va_mmin hx hcd (hml.trans hl0.1.symm) hown (hts _ hl) (hts _ h1) (hts _ h2) (hts _ h3) (Nat.le_trans hD hf1) ?_ (Nat.le_trans hc hf3) (Nat.le_trans hs hf4) hd (k p e R s m args below meth c g Qf hF hO H locs ls hH hS hl0)
  rw [z_cat]
  omega
theorem z_mabs {idx : Nat} {x : Int32} (hl : Cond.methodLink (zy (zbM B)).cls idx Lib.Math.abs.name ∈ zT) (h1 : Cond.static Lib.Math.abs.name ∈ zT) (h2 : Cond.initialized "java/lang/Math" ∈ zT) (h3 : Cond.code Lib.Math.abs.name Lib.Math.abs.code 1 (some .int) ∈ zT) (hd : decode (zbc B) pc = .ok (.invokestatic idx, 3)) (hst : (st.map fun v => v.category).sum ≤ 8) (hD : 1 ≤ zbD B) (hc : ce ≤ B.2.2.1) (hs : sl ≤ B.2.2.2.1) (k : Z B (pc + 3) lv (.int (if 0 ≤ x then x else 0 - x) :: st) h ce sl) : Z B pc lv (.int x :: st) h ce sl := by
  intro p e R s m args below meth c g Qf hF hO H locs ls hH hS hl0
  obtain ⟨hx, hcd, hml, hown, hts, -, -, -, hf1, hf2, hf3, hf4, hK, -⟩ := id hO
  refine va_mabs hx hcd (hml.trans hl0.1.symm) hown (hts _ hl) (hts _ h1) (hts _ h2) (hts _ h3) (Nat.le_trans hD hf1) ?_ (Nat.le_trans hc hf3) (Nat.le_trans hs hf4) hd (k p e R s m args below meth c g Qf hF hO H locs ls hH hS hl0)
  rw [z_cat]
  omega
end ZMa
section ZFi
variable {B : zB} {pc : Nat} {lv : zL} {st : List Value} {h : zH} {ce sl : Nat}
theorem z_get {q idx ci N : Nat} {C : String} {T : u_T} {fs : List Value} {v : Value} (k : Nat) (hc : vwCl[ci]? = some (C, T, N)) (hin : ∀ w ∈ u_ws C T N, w ∈ zT) (hk : k < N) (hl : Cond.fieldLink (zy (zbM B)).cls idx (T k).1 (T k).2.1 (T k).2.2.1 ∈ zT) (hd : decode (zbc B) pc = .ok (.getfield idx, 3)) (he : h[q]? = some (.inr (ci, fs))) (hv : fs[k]? = some v) (kk : Z B (pc + 3) lv (v :: st) h ce sl) : Z B pc lv (.ref q :: st) h ce sl := by
  intro p e R s m args below meth c g Qf hF hO H locs ls hH hS hl0
  obtain ⟨hx, hcd, hml, hown, hts, -, -, -, hf1, hf2, hf3, hf4, hK, -⟩ := id hO
  exact va_get (T := T) (N := N) (v := zv g v) hx hcd hts hin hown hK.1 hH.1 q (zw_get (g := g) he) hc k hk (hts _ hl) (fun _ h9 => h9) (by rw [List.getElem?_map, hv]; rfl) hd (kk p e R s m args below meth c g Qf hF hO H locs ls hH hS hl0)
theorem z_getN {q idx ci N : Nat} {C host : String} {T : u_T} {fs : List Value} {v : Value} (k : Nat) (hc : vwCl[ci]? = some (C, T, N)) (hin : ∀ w ∈ u_ws C T N, w ∈ zT) (hk : k < N) (hl : Cond.fieldLinkNest (zy (zbM B)).cls idx (T k).1 (T k).2.1 (T k).2.2.1 host ∈ zNW) (hd : decode (zbc B) pc = .ok (.getfield idx, 3)) (he : h[q]? = some (.inr (ci, fs))) (hv : fs[k]? = some v) (kk : Z B (pc + 3) lv (v :: st) h ce sl) : Z B pc lv (.ref q :: st) h ce sl := by
  intro p e R s m args below meth c g Qf hF hO H locs ls hH hS hl0
  obtain ⟨hx, hcd, hml, hown, hts, -, -, -, hf1, hf2, hf3, hf4, hK, -⟩ := id hO
  exact va_getN (T := T) (N := N) (v := zv g v) hx hcd hts hin hown hK.1 hH.1 q (zw_get (g := g) he) hc k hk (va_Nw.use rfl (hK.2.2.1 _ hl)) (fun _ h9 => h9) (by rw [List.getElem?_map, hv]; rfl) hd (kk p e R s m args below meth c g Qf hF hO H locs ls hH hS hl0)
/-- a class's field types and names -/
def zty (T : u_T) (N : Nat) (ty : Nat → FieldType) : Prop := (∀ k, k < N → parseFieldDescriptor (T k).2.2.1 = some (ty k)) ∧ (∀ a, a < N → ∀ b, b < N → a ≠ b → (T a).2.1 ≠ (T b).2.1)
theorem zput_at {g : zG} {H1 : Heap} {q ci N k : Nat} {C : String} {T : u_T} {fs : List Value} {v : Value} {cell : Cell} (hc : vwCl[ci]? = some (C, T, N)) (hap : ∀ x y, x < N → y < N → x ≠ y → (g.2.1.2 ci) x ≠ (g.2.1.2 ci) y) (hk : k < N) (hlen : k < fs.length) (e1 : H1[za g q]? = some (cell.setSlot ((g.2.1.2 ci) k) (zv g v))) (q2 : cell.cls = g.2.1.1 ci) (q3 : cell.vm = .none) (q4 : ∀ j, j < N → cell.slots[(g.2.1.2 ci) j]? = some (vp_V (fs.map (zv g)) j)) : va_at g.2.1 vwCl (za g q, zc g (.inr (ci, fs.set k v))) H1 := by
  refine ⟨_, hc, t_OB.to (V := updV (vp_V (fs.map (zv g))) k (zv g v)) ⟨_, e1, q2, q3, t_set q4 hap hk (zv g v)⟩ (fun j _ => ?_)⟩
  rw [vp_updV_set (by rw [List.length_map]; exact hlen)]
  show vp_V _ j = vp_V ((fs.set k v).map (zv g)) j
  rw [List.map_set]
theorem z_put {q idx ci N : Nat} {C : String} {T : u_T} {fs : List Value} {v : Value} {tyf : Nat → FieldType} (k : Nat) (hc : vwCl[ci]? = some (C, T, N)) (hin : ∀ w ∈ u_ws C T N, w ∈ zT) (hty : zty T N tyf) (hk : k < N) (hl : Cond.fieldLink (zy (zbM B)).cls idx (T k).1 (T k).2.1 (T k).2.2.1 ∈ zT) (hfin : (T k).2.2.2 = false) (hn : ∀ g, narrow (tyf k) (zv g v) = zv g v) (hfit : ∀ g, fits (tyf k) (zv g v) = true) (hlen : k < fs.length) (hd : decode (zbc B) pc = .ok (.putfield idx, 3)) (he : h[q]? = some (.inr (ci, fs))) (kk : Z B (pc + 3) lv st (h.set q (.inr (ci, fs.set k v))) ce sl) : Z B pc lv (v :: .ref q :: st) h ce sl := by
  intro p e R s m args below meth c g Qf hF hO H locs ls hH hS hl0
  obtain ⟨hx, hcd, hml, hown, hts, -, -, -, hf1, hf2, hf3, hf4, hK, -⟩ := id hO
  have hap := va_apart (own := (zy (zbM B)).cls) hts hin tyf hty.1 hty.2 hK.1 hc
  obtain ⟨r, h1, cell, q1, q2, q3, q4⟩ := hH.1 q _ (zw_get (g := g) he)
  have hr : r = (C, T, N) := Option.some.inj (h1.symm.trans hc)
  subst hr
  obtain ⟨hSl, hfc, kC, hkC, hkind⟩ := hK.1.1 ci _ hc
  obtain ⟨cf, kf, fi, f, hi, hsl⟩ := hSl k hk
  have hlay := hts _ (hin _ (u_in_lay hk))
  unfold u_lay at hlay
  rw [if_neg (by rw [hfin]; decide)] at hlay
  have hst := (u_facts hfc hkC (u_lays hts hin hk) hi).1
  have h6 := u_store hfc hkC hkind hlay hi (hty.1 k hk) (hn g) (hfit g)
  refine W.putK hx hcd (f := f) ⟨hown, hts _ hl, ⟨_, _, _, hi⟩, hst⟩ (by rw [q2]; exact h6) q1 q3 (by rw [hsl]; exact k2_hasslot (q4 k hk)) rfl rfl hd fun H' e1 e2 e3 => ?_
  rw [hsl] at e1 ⊢
  exact kk p e R s m args below meth c g Qf hF hO H' _ ls (hH.set he (fun ty x0 h0 => by cases h0) e2 (zput_at hc hap hk hlen e1 q2 q3 q4) e3) (hS.put e2 e3 (zA_at hH he)) hl0
theorem z_putN {q idx ci N : Nat} {C host : String} {T : u_T} {fs : List Value} {v : Value} {tyf : Nat → FieldType} (k : Nat) (hc : vwCl[ci]? = some (C, T, N)) (hin : ∀ w ∈ u_ws C T N, w ∈ zT) (hty : zty T N tyf) (hk : k < N) (hl : Cond.fieldLinkNest (zy (zbM B)).cls idx (T k).1 (T k).2.1 (T k).2.2.1 host ∈ zNW) (hfin : (T k).2.2.2 = false) (hn : ∀ g, narrow (tyf k) (zv g v) = zv g v) (hfit : ∀ g, fits (tyf k) (zv g v) = true) (hlen : k < fs.length) (hd : decode (zbc B) pc = .ok (.putfield idx, 3)) (he : h[q]? = some (.inr (ci, fs))) (kk : Z B (pc + 3) lv st (h.set q (.inr (ci, fs.set k v))) ce sl) : Z B pc lv (v :: .ref q :: st) h ce sl := by
  intro p e R s m args below meth c g Qf hF hO H locs ls hH hS hl0
  obtain ⟨hx, hcd, hml, hown, hts, -, -, -, hf1, hf2, hf3, hf4, hK, -⟩ := id hO
  have hap := va_apart (own := (zy (zbM B)).cls) hts hin tyf hty.1 hty.2 hK.1 hc
  obtain ⟨r, h1, cell, q1, q2, q3, q4⟩ := hH.1 q _ (zw_get (g := g) he)
  have hr : r = (C, T, N) := Option.some.inj (h1.symm.trans hc)
  subst hr
  obtain ⟨hSl, hfc, kC, hkC, hkind⟩ := hK.1.1 ci _ hc
  obtain ⟨cf, kf, fi, f, hi, hsl⟩ := hSl k hk
  have hlay := hts _ (hin _ (u_in_lay hk))
  unfold u_lay at hlay
  rw [if_neg (by rw [hfin]; decide)] at hlay
  have hst := (u_facts hfc hkC (u_lays hts hin hk) hi).1
  have h6 := u_store hfc hkC hkind hlay hi (hty.1 k hk) (hn g) (hfit g)
  refine va_WputK hx hcd (f := f) hown (va_Nw.use rfl (hK.2.2.1 _ hl)) hi hst (by rw [q2]; exact h6) q1 q3 (by rw [hsl]; exact k2_hasslot (q4 k hk)) rfl rfl hd fun H' e1 e2 e3 => ?_
  rw [hsl] at e1 ⊢
  exact kk p e R s m args below meth c g Qf hF hO H' _ ls (hH.set he (fun ty x0 h0 => by cases h0) e2 (zput_at hc hap hk hlen e1 q2 q3 q4) e3) (hS.put e2 e3 (zA_at hH he)) hl0
/-- a final field, in its class's constructor -/
theorem z_putF {q idx ci N : Nat} {C : String} {T : u_T} {fs : List Value} {v : Value} {tyf : Nat → FieldType} (k : Nat) (hc : vwCl[ci]? = some (C, T, N)) (hin : ∀ w ∈ u_ws C T N, w ∈ zT) (hty : zty T N tyf) (hk : k < N) (hl : Cond.fieldLink (zy (zbM B)).cls idx (T k).1 (T k).2.1 (T k).2.2.1 ∈ zT) (hfin : (T k).2.2.2 = true) (hinit : (zy (zbM B)).name = "<init>") (hdecl : (T k).1 = (zy (zbM B)).cls) (hn : ∀ g, narrow (tyf k) (zv g v) = zv g v) (hfit : ∀ g, fits (tyf k) (zv g v) = true) (hlen : k < fs.length) (hd : decode (zbc B) pc = .ok (.putfield idx, 3)) (he : h[q]? = some (.inr (ci, fs))) (kk : Z B (pc + 3) lv st (h.set q (.inr (ci, fs.set k v))) ce sl) : Z B pc lv (v :: .ref q :: st) h ce sl := by
  intro p e R s m args below meth c g Qf hF hO H locs ls hH hS hl0
  obtain ⟨hx, hcd, hml, hown, hts, -, -, hin2, hf1, hf2, hf3, hf4, hK, -⟩ := id hO
  have hap := va_apart (own := (zy (zbM B)).cls) hts hin tyf hty.1 hty.2 hK.1 hc
  obtain ⟨r, h1, cell, q1, q2, q3, q4⟩ := hH.1 q _ (zw_get (g := g) he)
  have hr : r = (C, T, N) := Option.some.inj (h1.symm.trans hc)
  subst hr
  obtain ⟨hSl, hfc, kC, hkC, hkind⟩ := hK.1.1 ci _ hc
  obtain ⟨cf, kf, fi, f, hi, hsl⟩ := hSl k hk
  have hlay := hts _ (hin _ (u_in_lay hk))
  unfold u_lay at hlay
  rw [if_pos hfin] at hlay
  have hst := (u_facts hfc hkC (u_lays hts hin hk) hi).1
  have hcf : m.cls = cf := by
    obtain ⟨_, _, c', _, _, _, -, -, hf', -, -, -, hown2, -⟩ := Cond.laysFinal_spec hlay
    have e1 : c' = cf := by have := hi.symm.trans hf'; simp at this; exact this.1.symm
    rw [hdecl] at hown2
    rw [← e1]; exact Option.some.inj (hown.symm.trans hown2)
  have h6 := u_fits hfc hkC hkind (Or.inr hlay) hi (hty.1 k hk) (hn g) (hfit g)
  refine W.putFinK hx hcd hown (hts _ hl) hi hst hcf (hin2 hinit) (by rw [q2]; exact h6) q1 q3 (by rw [hsl]; exact k2_hasslot (q4 k hk)) rfl rfl hd fun H' e1 e2 e3 => ?_
  rw [hsl] at e1 ⊢
  exact kk p e R s m args below meth c g Qf hF hO H' _ ls (hH.set he (fun ty x0 h0 => by cases h0) e2 (zput_at hc hap hk hlen e1 q2 q3 q4) e3) (hS.put e2 e3 (zA_at hH he)) hl0
/-- a new cell behind the others -/
theorem zO.push {g : zG} {s : State} {h : zH} {H H1 : Heap} {e1 : zE} (hO : zO g s h H) (hl : h.length < zE0) (hz : H1.size = H.size + 1) (ha : va_at g.2.1 vwCl (H.size, zc g e1) H1) (oq : ∀ a : Nat, a < H.size → H1[a]? = H[a]?) (ht : ∀ ty x, e1 = .inl (ty, x) → ArrOfT s (zkap g ty) ty ∧ va_RA s (zkap g ty) ty) : zO g s (h ++ [e1]) H1 ∧ za g h.length = H.size := by
  obtain ⟨h1, h2, h3, h4⟩ := hO
  have hza : za g h.length = H.size := by rw [za_lt hl, h2]
  refine ⟨⟨?_, by rw [hz, h2, List.length_append]; rfl, by rw [List.length_append]; exact hl, fun k ty x hk => ?_⟩, hza⟩
  · rw [← zw_push]
    refine (h1.kept fun k q hk => oq q.1 (h1 k q hk).lt).app fun k q hk => ?_
    have hz : k < 1 := (List.getElem?_eq_some_iff.mp hk).1
    rw [show k = 0 by omega] at hk
    cases hk
    rw [hza]
    exact ha
  · by_cases hkl : k < h.length
    · rw [List.getElem?_append_left hkl] at hk
      exact h4 k ty x hk
    · rw [List.getElem?_append_right (by omega)] at hk
      have hz : k - h.length < 1 := (List.getElem?_eq_some_iff.mp hk).1
      rw [show k - h.length = 0 by omega] at hk
      exact ht ty x (Option.some.inj hk)
theorem z_new {idx ci N : Nat} {C : String} {T : u_T} {fs : List Value} {tyf : Nat → FieldType} (hc : vwCl[ci]? = some (C, T, N)) (hin : ∀ w ∈ u_ws C T N, w ∈ zT) (hty : zty T N tyf) (hcl : Cond.classLink (zy (zbM B)).cls idx C ∈ zT) (hinst : Cond.instantiable C N ∈ zT) (hini : Cond.initialized C ∈ zT) (hfs : ∀ j, j < N → defaultValue (tyf j) = vp_V fs j) (hnr : ∀ g, fs.map (zv g) = fs) (hl : h.length < zE0) (hce : ce + 1 ≤ B.2.2.1) (hsl : sl + N ≤ B.2.2.2.1) (hd : decode (zbc B) pc = .ok (.new idx, 3)) (kk : Z B (pc + 3) lv (.ref h.length :: st) (h ++ [.inr (ci, fs)]) (ce + 1) (sl + N)) : Z B pc lv st h ce sl := by
  intro p e R s m args below meth c g Qf hF hO H locs ls hH hS hl0
  obtain ⟨hx, hcd, hml, hown, hts, -, -, -, hf1, hf2, hf3, hf4, hK, -⟩ := id hO
  have hKn := hK.1.1 ci _ hc
  refine W.newcK hx hcd hown (hts _ hcl) (hts _ hinst) (hts _ hini) rfl hd (Nat.le_trans hce hf3) (Nat.le_trans hsl hf4) hKn.2.1 rfl fun H1 kC hkC e1 z1 o1 => ?_
  obtain ⟨hO1, hza⟩ := hH.push (e1 := .inr (ci, fs)) hl z1 ⟨_, hc, by
    show t_OB H.size _ N _ H1 (vp_V (fs.map (zv g)))
    rw [hnr g]
    exact (u_born tyf hts hin hKn hkC e1 hty.1).to hfs⟩ o1 (fun ty x h0 => by cases h0)
  have hS1 : va_S (zA g) s.heap H1 locs := ⟨Nat.le_trans hS.1 (by omega), fun x h1 h2 => (o1 x (Nat.lt_of_lt_of_le h1 hS.1)).trans (hS.2.1 x h1 h2), hS.2.2⟩
  have key := kk p e R s m args below meth c g Qf hF hO H1 locs ls hO1 hS1 hl0
  rw [List.map_cons, zv_ref, hza] at key
  exact key
theorem z_newa {atype : ArrayType} {n : Int32} {N : Nat} {x : vp_A} (hcl : Cond.arrayClass (newarray.typeOf atype) ∈ zT) (hx : ∀ cA : ClassId, vp_cell cA (N, x.2) = arrV cA N (fun _ => defaultValue (newarray.typeOf atype))) (hra : ∀ (s : State) (cA : ClassId), s.vm.findClass ("[" ++ (newarray.typeOf atype).toString) = some cA → va_RA s cA (newarray.typeOf atype)) (hn : ¬ n < 0) (hN : n.toNatClampNeg = N) (hby : N * componentBytes (newarray.typeOf atype) ≤ 536870912) (hl : h.length < zE0) (hce : ce + 1 ≤ B.2.2.1) (hsl : sl + N ≤ B.2.2.2.1) (hd : decode (zbc B) pc = .ok (.newarray atype, 2)) (kk : Z B (pc + 2) lv (.ref h.length :: st) (h ++ [.inl (newarray.typeOf atype, N, x.2)]) (ce + 1) (sl + N)) : Z B pc lv (.int n :: st) h ce sl := by
  intro p e R s m args below meth c g Qf hF hO H locs ls hH hS hl0
  obtain ⟨hx0, hcd, hml, hown, hts, -, -, -, hf1, hf2, hf3, hf4, hK, -⟩ := id hO
  refine va_newaK hx0 hcd (hts _ hcl) rfl hd rfl hn hN hby (Nat.le_trans hce hf3) (Nat.le_trans hsl hf4) rfl fun H1 cA e1 z1 o1 hAr hNm => ?_
  have hcA := hK.2.1 _ _ hNm
  subst hcA
  obtain ⟨hO1, hza⟩ := hH.push (e1 := .inl (newarray.typeOf atype, N, x.2)) hl z1 (by
    show H1[H.size]? = some (vp_cell _ (N, x.2))
    rw [hx]
    exact e1) o1 (fun ty x1 h0 => by cases h0; exact ⟨hAr, hra s _ hNm⟩)
  have hS1 : va_S (zA g) s.heap H1 locs := ⟨Nat.le_trans hS.1 (by omega), fun x h1 h2 => (o1 x (Nat.lt_of_lt_of_le h1 hS.1)).trans (hS.2.1 x h1 h2), hS.2.2⟩
  have key := kk p e R s m args below meth c g Qf hF hO H1 locs ls hO1 hS1 hl0
  rw [List.map_cons, zv_ref, hza] at key
  exact key
end ZFi
section ZFb
variable {B : zB} {pc : Nat} {lv : zL} {st : List Value} {h : zH} {ce sl : Nat}
/-- the field at the entry idx of own's pool: slot k of class ci, its type, whether it is final -/
def zFl (own : String) (idx ci k : Nat) (ty : FieldType) (fin : Bool) : Prop := ∃ (C : String) (T : u_T) (N : Nat) (tyf : Nat → FieldType), vwCl[ci]? = some (C, T, N) ∧ (∀ w ∈ u_ws C T N, w ∈ zT) ∧ zty T N tyf ∧ k < N ∧ tyf k = ty ∧ (T k).2.2.2 = fin ∧ (T k).1 = C ∧ (Cond.fieldLink own idx (T k).1 (T k).2.1 (T k).2.2.1 ∈ zT ∨ ∃ host, Cond.fieldLinkNest own idx (T k).1 (T k).2.1 (T k).2.2.1 host ∈ zNW)
theorem z_getf {q idx ci k : Nat} {ty : FieldType} {fin : Bool} {fs : List Value} {v : Value} (hf : zFl (zy (zbM B)).cls idx ci k ty fin) (hd : decode (zbc B) pc = .ok (.getfield idx, 3)) (he : h[q]? = some (.inr (ci, fs))) (hv : fs[k]? = some v) (kk : Z B (pc + 3) lv (v :: st) h ce sl) : Z B pc lv (.ref q :: st) h ce sl := by
  obtain ⟨C, T, N, tyf, hc, hin, hty, hk, -, -, -, hl | ⟨host, hl⟩⟩ := hf
  · exact z_get k hc hin hk hl hd he hv kk
  · exact z_getN k hc hin hk hl hd he hv kk
theorem z_putf {q idx ci k : Nat} {ty : FieldType} {fs : List Value} {v : Value} (hf : zFl (zy (zbM B)).cls idx ci k ty false) (hn : ∀ g, narrow ty (zv g v) = zv g v) (hfit : ∀ g, fits ty (zv g v) = true) (hlen : k < fs.length) (hd : decode (zbc B) pc = .ok (.putfield idx, 3)) (he : h[q]? = some (.inr (ci, fs))) (kk : Z B (pc + 3) lv st (h.set q (.inr (ci, fs.set k v))) ce sl) : Z B pc lv (v :: .ref q :: st) h ce sl := by
  obtain ⟨C, T, N, tyf, hc, hin, hty, hk, rfl, hfin, -, hl | ⟨host, hl⟩⟩ := hf
  · exact z_put k hc hin hty hk hl hfin hn hfit hlen hd he kk
  · exact z_putN k hc hin hty hk hl hfin hn hfit hlen hd he kk
theorem z_putff {q idx ci k : Nat} {ty : FieldType} {fs : List Value} {v : Value} (hf : zFl (zy (zbM B)).cls idx ci k ty true) (hcl : ∀ C T N, vwCl[ci]? = some (C, T, N) → C = (zy (zbM B)).cls) (hnest : ∀ C T N, vwCl[ci]? = some (C, T, N) → Cond.fieldLink (zy (zbM B)).cls idx (T k).1 (T k).2.1 (T k).2.2.1 ∈ zT) (hinit : (zy (zbM B)).name = "<init>") (hn : ∀ g, narrow ty (zv g v) = zv g v) (hfit : ∀ g, fits ty (zv g v) = true) (hlen : k < fs.length) (hd : decode (zbc B) pc = .ok (.putfield idx, 3)) (he : h[q]? = some (.inr (ci, fs))) (kk : Z B (pc + 3) lv st (h.set q (.inr (ci, fs.set k v))) ce sl) : Z B pc lv (v :: .ref q :: st) h ce sl := by
  obtain ⟨C, T, N, tyf, hc, hin, hty, hk, rfl, hfin, hown, -⟩ := hf
  exact z_putF k hc hin hty hk (hnest C T N hc) hfin hinit (hown.trans (hcl C T N hc)) hn hfit hlen hd he kk
/-- a class of which new objects are made, from own's pool -/
def zNw (own : String) (idx ci N : Nat) (fs : List Value) : Prop := ∃ (C : String) (T : u_T) (tyf : Nat → FieldType), vwCl[ci]? = some (C, T, N) ∧ (∀ w ∈ u_ws C T N, w ∈ zT) ∧ zty T N tyf ∧ Cond.classLink own idx C ∈ zT ∧ Cond.instantiable C N ∈ zT ∧ Cond.initialized C ∈ zT ∧ (∀ j, j < N → defaultValue (tyf j) = vp_V fs j) ∧ ∀ g, fs.map (zv g) = fs
theorem z_newo {idx ci N : Nat} {fs : List Value} (hw : zNw (zy (zbM B)).cls idx ci N fs) (hl : h.length < zE0) (hce : ce + 1 ≤ B.2.2.1) (hsl : sl + N ≤ B.2.2.2.1) (hd : decode (zbc B) pc = .ok (.new idx, 3)) (kk : Z B (pc + 3) lv (.ref h.length :: st) (h ++ [.inr (ci, fs)]) (ce + 1) (sl + N)) : Z B pc lv st h ce sl := by
  obtain ⟨C, T, tyf, hc, hin, hty, h1, h2, h3, h4, h5⟩ := hw
  exact z_new hc hin hty h1 h2 h3 h4 h5 hl hce hsl hd kk
end ZFb
end
