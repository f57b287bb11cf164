section
-- ===== PART A: goes FIRST, ahead of the names: the tables' words, and 'selects' of the private methods out of them =====
/-- a private method of a class that the tables say can be made, by its rows of tables_1 -/
def lw_okq (q : MethodName × Nat) : Prop := (q.1.cls ≠ "java/lang/invoke/MethodHandle" ∧ q.1.cls ≠ "java/lang/invoke/VarHandle") ∧ Cond.instantiable q.1.cls q.2 ∈ tables_1 ∧ Cond.privateMethod q.1 ∈ tables_1 ∧ Cond.instanceMethod q.1 ∈ tables_1
theorem lw_p0 : lw_okq (⟨"SpellTurner$Reader", "nextToken", "()V"⟩, 9) := ⟨⟨by decide +kernel, by decide +kernel⟩, List.mem_of_getElem? (i := 143) (by decide +kernel), List.mem_of_getElem? (i := 460) (by decide +kernel), List.mem_of_getElem? (i := 461) (by decide +kernel)⟩
theorem lw_p1 : lw_okq (⟨"SpellTurner$Reader", "scanRun", "(I)V"⟩, 9) := ⟨⟨by decide +kernel, by decide +kernel⟩, List.mem_of_getElem? (i := 143) (by decide +kernel), List.mem_of_getElem? (i := 464) (by decide +kernel), List.mem_of_getElem? (i := 465) (by decide +kernel)⟩
theorem lw_p2 : lw_okq (⟨"SpellTurner$Reader", "wordIs", "(Ljava/lang/String;)Z"⟩, 9) := ⟨⟨by decide +kernel, by decide +kernel⟩, List.mem_of_getElem? (i := 143) (by decide +kernel), List.mem_of_getElem? (i := 472) (by decide +kernel), List.mem_of_getElem? (i := 473) (by decide +kernel)⟩
theorem lw_p3 : lw_okq (⟨"SpellTurner$Reader", "readKeep", "(LSpellTurner$Reform;)V"⟩, 9) := ⟨⟨by decide +kernel, by decide +kernel⟩, List.mem_of_getElem? (i := 143) (by decide +kernel), List.mem_of_getElem? (i := 524) (by decide +kernel), List.mem_of_getElem? (i := 525) (by decide +kernel)⟩
theorem lw_p4 : lw_okq (⟨"SpellTurner$Reader", "hasRoom", "(Z)Z"⟩, 9) := ⟨⟨by decide +kernel, by decide +kernel⟩, List.mem_of_getElem? (i := 143) (by decide +kernel), List.mem_of_getElem? (i := 532) (by decide +kernel), List.mem_of_getElem? (i := 533) (by decide +kernel)⟩
theorem lw_p5 : lw_okq (⟨"SpellTurner$Reader", "blame", "(I)Z"⟩, 9) := ⟨⟨by decide +kernel, by decide +kernel⟩, List.mem_of_getElem? (i := 143) (by decide +kernel), List.mem_of_getElem? (i := 536) (by decide +kernel), List.mem_of_getElem? (i := 537) (by decide +kernel)⟩
theorem lw_p6 : lw_okq (⟨"SpellTurner$Reader", "takeNew", "(LSpellTurner$WordRow;)Z"⟩, 9) := ⟨⟨by decide +kernel, by decide +kernel⟩, List.mem_of_getElem? (i := 143) (by decide +kernel), List.mem_of_getElem? (i := 540) (by decide +kernel), List.mem_of_getElem? (i := 541) (by decide +kernel)⟩
theorem lw_p7 : lw_okq (⟨"SpellTurner$Reader", "takeLetters", "(Z)Z"⟩, 9) := ⟨⟨by decide +kernel, by decide +kernel⟩, List.mem_of_getElem? (i := 143) (by decide +kernel), List.mem_of_getElem? (i := 544) (by decide +kernel), List.mem_of_getElem? (i := 545) (by decide +kernel)⟩
theorem lw_p8 : lw_okq (⟨"SpellTurner$Reader", "isNew", "(Z)Z"⟩, 9) := ⟨⟨by decide +kernel, by decide +kernel⟩, List.mem_of_getElem? (i := 143) (by decide +kernel), List.mem_of_getElem? (i := 555) (by decide +kernel), List.mem_of_getElem? (i := 556) (by decide +kernel)⟩
theorem lw_p9 : lw_okq (⟨"SpellTurner$Reform", "addEntry", "([BIIZ)V"⟩, 11) := ⟨⟨by decide +kernel, by decide +kernel⟩, List.mem_of_getElem? (i := 47) (by decide +kernel), List.mem_of_getElem? (i := 563) (by decide +kernel), List.mem_of_getElem? (i := 564) (by decide +kernel)⟩
theorem lw_p10 : lw_okq (⟨"SpellTurner$Reader", "takeClose", "()Z"⟩, 9) := ⟨⟨by decide +kernel, by decide +kernel⟩, List.mem_of_getElem? (i := 143) (by decide +kernel), List.mem_of_getElem? (i := 576) (by decide +kernel), List.mem_of_getElem? (i := 577) (by decide +kernel)⟩
theorem lw_p11 : lw_okq (⟨"SpellTurner$Reader", "readList", "(LSpellTurner$Reform;)V"⟩, 9) := ⟨⟨by decide +kernel, by decide +kernel⟩, List.mem_of_getElem? (i := 143) (by decide +kernel), List.mem_of_getElem? (i := 581) (by decide +kernel), List.mem_of_getElem? (i := 582) (by decide +kernel)⟩
theorem lw_p12 : lw_okq (⟨"SpellTurner$Reader", "takeTo", "()Z"⟩, 9) := ⟨⟨by decide +kernel, by decide +kernel⟩, List.mem_of_getElem? (i := 143) (by decide +kernel), List.mem_of_getElem? (i := 589) (by decide +kernel), List.mem_of_getElem? (i := 590) (by decide +kernel)⟩
theorem lw_p13 : lw_okq (⟨"SpellTurner$Reader", "readPart", "(LSpellTurner$Reform;)V"⟩, 9) := ⟨⟨by decide +kernel, by decide +kernel⟩, List.mem_of_getElem? (i := 143) (by decide +kernel), List.mem_of_getElem? (i := 596) (by decide +kernel), List.mem_of_getElem? (i := 597) (by decide +kernel)⟩
theorem lw_p14 : lw_okq (⟨"SpellTurner$Reader", "readLaw", "(LSpellTurner$Reform;)V"⟩, 9) := ⟨⟨by decide +kernel, by decide +kernel⟩, List.mem_of_getElem? (i := 143) (by decide +kernel), List.mem_of_getElem? (i := 601) (by decide +kernel), List.mem_of_getElem? (i := 602) (by decide +kernel)⟩
theorem lw_p15 : lw_okq (⟨"SpellTurner$Reader", "letters", "()[B"⟩, 9) := ⟨⟨by decide +kernel, by decide +kernel⟩, List.mem_of_getElem? (i := 143) (by decide +kernel), List.mem_of_getElem? (i := 605) (by decide +kernel), List.mem_of_getElem? (i := 606) (by decide +kernel)⟩
def lw_privs_1 : List (MethodName × Nat) := [(⟨"SpellTurner$Reader", "nextToken", "()V"⟩, 9), (⟨"SpellTurner$Reader", "scanRun", "(I)V"⟩, 9), (⟨"SpellTurner$Reader", "wordIs", "(Ljava/lang/String;)Z"⟩, 9), (⟨"SpellTurner$Reader", "readKeep", "(LSpellTurner$Reform;)V"⟩, 9), (⟨"SpellTurner$Reader", "hasRoom", "(Z)Z"⟩, 9), (⟨"SpellTurner$Reader", "blame", "(I)Z"⟩, 9), (⟨"SpellTurner$Reader", "takeNew", "(LSpellTurner$WordRow;)Z"⟩, 9), (⟨"SpellTurner$Reader", "takeLetters", "(Z)Z"⟩, 9), (⟨"SpellTurner$Reader", "isNew", "(Z)Z"⟩, 9), (⟨"SpellTurner$Reform", "addEntry", "([BIIZ)V"⟩, 11), (⟨"SpellTurner$Reader", "takeClose", "()Z"⟩, 9), (⟨"SpellTurner$Reader", "readList", "(LSpellTurner$Reform;)V"⟩, 9), (⟨"SpellTurner$Reader", "takeTo", "()Z"⟩, 9), (⟨"SpellTurner$Reader", "readPart", "(LSpellTurner$Reform;)V"⟩, 9), (⟨"SpellTurner$Reader", "readLaw", "(LSpellTurner$Reform;)V"⟩, 9), (⟨"SpellTurner$Reader", "letters", "()[B"⟩, 9)]
theorem lw_r1 : ∀ q ∈ lw_privs_1, lw_okq q := List.forall_mem_cons.mpr ⟨lw_p0, List.forall_mem_cons.mpr ⟨lw_p1, List.forall_mem_cons.mpr ⟨lw_p2, List.forall_mem_cons.mpr ⟨lw_p3, List.forall_mem_cons.mpr ⟨lw_p4, List.forall_mem_cons.mpr ⟨lw_p5, List.forall_mem_cons.mpr ⟨lw_p6, List.forall_mem_cons.mpr ⟨lw_p7, List.forall_mem_cons.mpr ⟨lw_p8, List.forall_mem_cons.mpr ⟨lw_p9, List.forall_mem_cons.mpr ⟨lw_p10, List.forall_mem_cons.mpr ⟨lw_p11, List.forall_mem_cons.mpr ⟨lw_p12, List.forall_mem_cons.mpr ⟨lw_p13, List.forall_mem_cons.mpr ⟨lw_p14, List.forall_mem_cons.mpr ⟨lw_p15, fun _ h => absurd h List.not_mem_nil⟩⟩⟩⟩⟩⟩⟩⟩⟩⟩⟩⟩⟩⟩⟩⟩
theorem lw_p16 : lw_okq (⟨"SpellTurner$Reader", "readSide", "(LSpellTurner$Law;)V"⟩, 9) := ⟨⟨by decide +kernel, by decide +kernel⟩, List.mem_of_getElem? (i := 143) (by decide +kernel), List.mem_of_getElem? (i := 662) (by decide +kernel), List.mem_of_getElem? (i := 663) (by decide +kernel)⟩
theorem lw_p17 : lw_okq (⟨"SpellTurner$Turner", "runLaws", "(LSpellTurner$Reform;[BII)Z"⟩, 8) := ⟨⟨by decide +kernel, by decide +kernel⟩, List.mem_of_getElem? (i := 179) (by decide +kernel), List.mem_of_getElem? (i := 674) (by decide +kernel), List.mem_of_getElem? (i := 675) (by decide +kernel)⟩
theorem lw_p18 : lw_okq (⟨"SpellTurner$Turner", "apply", "(LSpellTurner$Law;)Z"⟩, 8) := ⟨⟨by decide +kernel, by decide +kernel⟩, List.mem_of_getElem? (i := 179) (by decide +kernel), List.mem_of_getElem? (i := 680) (by decide +kernel), List.mem_of_getElem? (i := 681) (by decide +kernel)⟩
theorem lw_p19 : lw_okq (⟨"SpellTurner", "reformAt", "(I)LSpellTurner$Reform;"⟩, 17) := ⟨⟨by decide +kernel, by decide +kernel⟩, List.mem_of_getElem? (i := 22) (by decide +kernel), List.mem_of_getElem? (i := 701) (by decide +kernel), List.mem_of_getElem? (i := 702) (by decide +kernel)⟩
theorem lw_p20 : lw_okq (⟨"SpellTurner", "areStages", "(II)Z"⟩, 17) := ⟨⟨by decide +kernel, by decide +kernel⟩, List.mem_of_getElem? (i := 22) (by decide +kernel), List.mem_of_getElem? (i := 713) (by decide +kernel), List.mem_of_getElem? (i := 714) (by decide +kernel)⟩
theorem lw_p21 : lw_okq (⟨"SpellTurner", "isStage", "(I)Z"⟩, 17) := ⟨⟨by decide +kernel, by decide +kernel⟩, List.mem_of_getElem? (i := 22) (by decide +kernel), List.mem_of_getElem? (i := 717) (by decide +kernel), List.mem_of_getElem? (i := 718) (by decide +kernel)⟩
theorem lw_p22 : lw_okq (⟨"SpellTurner$Turner", "turnWord", "(LSpellTurner$Reform;LSpellTurner$WordRow;ILSpellTurner$WordRow;)J"⟩, 8) := ⟨⟨by decide +kernel, by decide +kernel⟩, List.mem_of_getElem? (i := 179) (by decide +kernel), List.mem_of_getElem? (i := 740) (by decide +kernel), List.mem_of_getElem? (i := 741) (by decide +kernel)⟩
theorem lw_p23 : lw_okq (⟨"SpellTurner$Turner", "addEntry", "(LSpellTurner$Reform;ILSpellTurner$WordRow;)V"⟩, 8) := ⟨⟨by decide +kernel, by decide +kernel⟩, List.mem_of_getElem? (i := 179) (by decide +kernel), List.mem_of_getElem? (i := 745) (by decide +kernel), List.mem_of_getElem? (i := 746) (by decide +kernel)⟩
theorem lw_p24 : lw_okq (⟨"SpellTurner$Partings", "markFitting", "([BIII)V"⟩, 7) := ⟨⟨by decide +kernel, by decide +kernel⟩, List.mem_of_getElem? (i := 185) (by decide +kernel), List.mem_of_getElem? (i := 757) (by decide +kernel), List.mem_of_getElem? (i := 758) (by decide +kernel)⟩
theorem lw_p25 : lw_okq (⟨"SpellTurner$Partings", "walk", "(III)V"⟩, 7) := ⟨⟨by decide +kernel, by decide +kernel⟩, List.mem_of_getElem? (i := 185) (by decide +kernel), List.mem_of_getElem? (i := 771) (by decide +kernel), List.mem_of_getElem? (i := 772) (by decide +kernel)⟩
theorem lw_p26 : lw_okq (⟨"SpellTurner$Partings", "note", "(I)V"⟩, 7) := ⟨⟨by decide +kernel, by decide +kernel⟩, List.mem_of_getElem? (i := 185) (by decide +kernel), List.mem_of_getElem? (i := 775) (by decide +kernel), List.mem_of_getElem? (i := 776) (by decide +kernel)⟩
theorem lw_p27 : lw_okq (⟨"SpellTurner$Turner", "turnParting", "(LSpellTurner$Reform;ILSpellTurner$WordRow;)J"⟩, 8) := ⟨⟨by decide +kernel, by decide +kernel⟩, List.mem_of_getElem? (i := 179) (by decide +kernel), List.mem_of_getElem? (i := 780) (by decide +kernel), List.mem_of_getElem? (i := 781) (by decide +kernel)⟩
theorem lw_p28 : lw_okq (⟨"SpellTurner", "notePair", "(I)V"⟩, 17) := ⟨⟨by decide +kernel, by decide +kernel⟩, List.mem_of_getElem? (i := 22) (by decide +kernel), List.mem_of_getElem? (i := 855) (by decide +kernel), List.mem_of_getElem? (i := 856) (by decide +kernel)⟩
theorem lw_p29 : lw_okq (⟨"SpellTurner$Tape", "occurrences", "(II)I"⟩, 2) := ⟨⟨by decide +kernel, by decide +kernel⟩, List.mem_of_getElem? (i := 30) (by decide +kernel), List.mem_of_getElem? (i := 900) (by decide +kernel), List.mem_of_getElem? (i := 901) (by decide +kernel)⟩
theorem lw_p30 : lw_okq (⟨"SpellTurner$TextWords", "takeWord", "()V"⟩, 8) := ⟨⟨by decide +kernel, by decide +kernel⟩, List.mem_of_getElem? (i := 279) (by decide +kernel), List.mem_of_getElem? (i := 927) (by decide +kernel), List.mem_of_getElem? (i := 928) (by decide +kernel)⟩
theorem lw_p31 : lw_okq (⟨"SpellTurner$Scribe", "append", "([BII)V"⟩, 9) := ⟨⟨by decide +kernel, by decide +kernel⟩, List.mem_of_getElem? (i := 317) (by decide +kernel), List.mem_of_getElem? (i := 945) (by decide +kernel), List.mem_of_getElem? (i := 946) (by decide +kernel)⟩
def lw_privs_2 : List (MethodName × Nat) := [(⟨"SpellTurner$Reader", "readSide", "(LSpellTurner$Law;)V"⟩, 9), (⟨"SpellTurner$Turner", "runLaws", "(LSpellTurner$Reform;[BII)Z"⟩, 8), (⟨"SpellTurner$Turner", "apply", "(LSpellTurner$Law;)Z"⟩, 8), (⟨"SpellTurner", "reformAt", "(I)LSpellTurner$Reform;"⟩, 17), (⟨"SpellTurner", "areStages", "(II)Z"⟩, 17), (⟨"SpellTurner", "isStage", "(I)Z"⟩, 17), (⟨"SpellTurner$Turner", "turnWord", "(LSpellTurner$Reform;LSpellTurner$WordRow;ILSpellTurner$WordRow;)J"⟩, 8), (⟨"SpellTurner$Turner", "addEntry", "(LSpellTurner$Reform;ILSpellTurner$WordRow;)V"⟩, 8), (⟨"SpellTurner$Partings", "markFitting", "([BIII)V"⟩, 7), (⟨"SpellTurner$Partings", "walk", "(III)V"⟩, 7), (⟨"SpellTurner$Partings", "note", "(I)V"⟩, 7), (⟨"SpellTurner$Turner", "turnParting", "(LSpellTurner$Reform;ILSpellTurner$WordRow;)J"⟩, 8), (⟨"SpellTurner", "notePair", "(I)V"⟩, 17), (⟨"SpellTurner$Tape", "occurrences", "(II)I"⟩, 2), (⟨"SpellTurner$TextWords", "takeWord", "()V"⟩, 8), (⟨"SpellTurner$Scribe", "append", "([BII)V"⟩, 9)]
theorem lw_r2 : ∀ q ∈ lw_privs_2, lw_okq q := List.forall_mem_cons.mpr ⟨lw_p16, List.forall_mem_cons.mpr ⟨lw_p17, List.forall_mem_cons.mpr ⟨lw_p18, List.forall_mem_cons.mpr ⟨lw_p19, List.forall_mem_cons.mpr ⟨lw_p20, List.forall_mem_cons.mpr ⟨lw_p21, List.forall_mem_cons.mpr ⟨lw_p22, List.forall_mem_cons.mpr ⟨lw_p23, List.forall_mem_cons.mpr ⟨lw_p24, List.forall_mem_cons.mpr ⟨lw_p25, List.forall_mem_cons.mpr ⟨lw_p26, List.forall_mem_cons.mpr ⟨lw_p27, List.forall_mem_cons.mpr ⟨lw_p28, List.forall_mem_cons.mpr ⟨lw_p29, List.forall_mem_cons.mpr ⟨lw_p30, List.forall_mem_cons.mpr ⟨lw_p31, fun _ h => absurd h List.not_mem_nil⟩⟩⟩⟩⟩⟩⟩⟩⟩⟩⟩⟩⟩⟩⟩⟩
theorem lw_p32 : lw_okq (⟨"SpellTurner", "chargeWord", "()V"⟩, 17) := ⟨⟨by decide +kernel, by decide +kernel⟩, List.mem_of_getElem? (i := 22) (by decide +kernel), List.mem_of_getElem? (i := 984) (by decide +kernel), List.mem_of_getElem? (i := 985) (by decide +kernel)⟩
theorem lw_p33 : lw_okq (⟨"SpellTurner$Mixture", "cheapest", "(III)I"⟩, 6) := ⟨⟨by decide +kernel, by decide +kernel⟩, List.mem_of_getElem? (i := 351) (by decide +kernel), List.mem_of_getElem? (i := 1000) (by decide +kernel), List.mem_of_getElem? (i := 1001) (by decide +kernel)⟩
theorem lw_p34 : lw_okq (⟨"SpellTurner$Mixture", "cost", "(IIII)I"⟩, 6) := ⟨⟨by decide +kernel, by decide +kernel⟩, List.mem_of_getElem? (i := 351) (by decide +kernel), List.mem_of_getElem? (i := 1004) (by decide +kernel), List.mem_of_getElem? (i := 1005) (by decide +kernel)⟩
theorem lw_p35 : lw_okq (⟨"SpellTurnerModel", "scan", "()V"⟩, 71) := ⟨⟨by decide +kernel, by decide +kernel⟩, List.mem_of_getElem? (i := 1020) (by decide +kernel), List.mem_of_getElem? (i := 1257) (by decide +kernel), List.mem_of_getElem? (i := 1258) (by decide +kernel)⟩
theorem lw_p36 : lw_okq (⟨"SpellTurnerModel", "see", "(I)I"⟩, 71) := ⟨⟨by decide +kernel, by decide +kernel⟩, List.mem_of_getElem? (i := 1020) (by decide +kernel), List.mem_of_getElem? (i := 1261) (by decide +kernel), List.mem_of_getElem? (i := 1262) (by decide +kernel)⟩
theorem lw_p37 : lw_okq (⟨"SpellTurnerModel", "keyAt", "(II)I"⟩, 71) := ⟨⟨by decide +kernel, by decide +kernel⟩, List.mem_of_getElem? (i := 1020) (by decide +kernel), List.mem_of_getElem? (i := 1268) (by decide +kernel), List.mem_of_getElem? (i := 1269) (by decide +kernel)⟩
theorem lw_p38 : lw_okq (⟨"SpellTurnerModel", "readItem", "()Z"⟩, 71) := ⟨⟨by decide +kernel, by decide +kernel⟩, List.mem_of_getElem? (i := 1020) (by decide +kernel), List.mem_of_getElem? (i := 1275) (by decide +kernel), List.mem_of_getElem? (i := 1276) (by decide +kernel)⟩
theorem lw_p39 : lw_okq (⟨"SpellTurnerModel", "wrong", "(I)Z"⟩, 71) := ⟨⟨by decide +kernel, by decide +kernel⟩, List.mem_of_getElem? (i := 1020) (by decide +kernel), List.mem_of_getElem? (i := 1279) (by decide +kernel), List.mem_of_getElem? (i := 1280) (by decide +kernel)⟩
theorem lw_p40 : lw_okq (⟨"SpellTurnerModel", "readListed", "(Z)Z"⟩, 71) := ⟨⟨by decide +kernel, by decide +kernel⟩, List.mem_of_getElem? (i := 1020) (by decide +kernel), List.mem_of_getElem? (i := 1283) (by decide +kernel), List.mem_of_getElem? (i := 1284) (by decide +kernel)⟩
theorem lw_p41 : lw_okq (⟨"SpellTurnerModel", "take", "([B[IIZ)Z"⟩, 71) := ⟨⟨by decide +kernel, by decide +kernel⟩, List.mem_of_getElem? (i := 1020) (by decide +kernel), List.mem_of_getElem? (i := 1287) (by decide +kernel), List.mem_of_getElem? (i := 1288) (by decide +kernel)⟩
theorem lw_p42 : lw_okq (⟨"SpellTurnerModel", "readPart", "()Z"⟩, 71) := ⟨⟨by decide +kernel, by decide +kernel⟩, List.mem_of_getElem? (i := 1020) (by decide +kernel), List.mem_of_getElem? (i := 1294) (by decide +kernel), List.mem_of_getElem? (i := 1295) (by decide +kernel)⟩
theorem lw_p43 : lw_okq (⟨"SpellTurnerModel", "readLaw", "()Z"⟩, 71) := ⟨⟨by decide +kernel, by decide +kernel⟩, List.mem_of_getElem? (i := 1020) (by decide +kernel), List.mem_of_getElem? (i := 1298) (by decide +kernel), List.mem_of_getElem? (i := 1299) (by decide +kernel)⟩
theorem lw_p44 : lw_okq (⟨"SpellTurnerModel", "readWord", "()Z"⟩, 71) := ⟨⟨by decide +kernel, by decide +kernel⟩, List.mem_of_getElem? (i := 1020) (by decide +kernel), List.mem_of_getElem? (i := 1321) (by decide +kernel), List.mem_of_getElem? (i := 1322) (by decide +kernel)⟩
theorem lw_p45 : lw_okq (⟨"SpellTurnerModel", "takeWord", "([BII)V"⟩, 71) := ⟨⟨by decide +kernel, by decide +kernel⟩, List.mem_of_getElem? (i := 1020) (by decide +kernel), List.mem_of_getElem? (i := 1325) (by decide +kernel), List.mem_of_getElem? (i := 1326) (by decide +kernel)⟩
theorem lw_p46 : lw_okq (⟨"SpellTurnerModel", "isStage", "(I)Z"⟩, 71) := ⟨⟨by decide +kernel, by decide +kernel⟩, List.mem_of_getElem? (i := 1020) (by decide +kernel), List.mem_of_getElem? (i := 1329) (by decide +kernel), List.mem_of_getElem? (i := 1330) (by decide +kernel)⟩
theorem lw_p47 : lw_okq (⟨"SpellTurnerModel", "through", "(II)V"⟩, 71) := ⟨⟨by decide +kernel, by decide +kernel⟩, List.mem_of_getElem? (i := 1020) (by decide +kernel), List.mem_of_getElem? (i := 1333) (by decide +kernel), List.mem_of_getElem? (i := 1334) (by decide +kernel)⟩
def lw_privs_3 : List (MethodName × Nat) := [(⟨"SpellTurner", "chargeWord", "()V"⟩, 17), (⟨"SpellTurner$Mixture", "cheapest", "(III)I"⟩, 6), (⟨"SpellTurner$Mixture", "cost", "(IIII)I"⟩, 6), (⟨"SpellTurnerModel", "scan", "()V"⟩, 71), (⟨"SpellTurnerModel", "see", "(I)I"⟩, 71), (⟨"SpellTurnerModel", "keyAt", "(II)I"⟩, 71), (⟨"SpellTurnerModel", "readItem", "()Z"⟩, 71), (⟨"SpellTurnerModel", "wrong", "(I)Z"⟩, 71), (⟨"SpellTurnerModel", "readListed", "(Z)Z"⟩, 71), (⟨"SpellTurnerModel", "take", "([B[IIZ)Z"⟩, 71), (⟨"SpellTurnerModel", "readPart", "()Z"⟩, 71), (⟨"SpellTurnerModel", "readLaw", "()Z"⟩, 71), (⟨"SpellTurnerModel", "readWord", "()Z"⟩, 71), (⟨"SpellTurnerModel", "takeWord", "([BII)V"⟩, 71), (⟨"SpellTurnerModel", "isStage", "(I)Z"⟩, 71), (⟨"SpellTurnerModel", "through", "(II)V"⟩, 71)]
theorem lw_r3 : ∀ q ∈ lw_privs_3, lw_okq q := List.forall_mem_cons.mpr ⟨lw_p32, List.forall_mem_cons.mpr ⟨lw_p33, List.forall_mem_cons.mpr ⟨lw_p34, List.forall_mem_cons.mpr ⟨lw_p35, List.forall_mem_cons.mpr ⟨lw_p36, List.forall_mem_cons.mpr ⟨lw_p37, List.forall_mem_cons.mpr ⟨lw_p38, List.forall_mem_cons.mpr ⟨lw_p39, List.forall_mem_cons.mpr ⟨lw_p40, List.forall_mem_cons.mpr ⟨lw_p41, List.forall_mem_cons.mpr ⟨lw_p42, List.forall_mem_cons.mpr ⟨lw_p43, List.forall_mem_cons.mpr ⟨lw_p44, List.forall_mem_cons.mpr ⟨lw_p45, List.forall_mem_cons.mpr ⟨lw_p46, List.forall_mem_cons.mpr ⟨lw_p47, fun _ h => absurd h List.not_mem_nil⟩⟩⟩⟩⟩⟩⟩⟩⟩⟩⟩⟩⟩⟩⟩⟩
theorem lw_p48 : lw_okq (⟨"SpellTurnerModel", "turnBy", "(I)V"⟩, 71) := ⟨⟨by decide +kernel, by decide +kernel⟩, List.mem_of_getElem? (i := 1020) (by decide +kernel), List.mem_of_getElem? (i := 1337) (by decide +kernel), List.mem_of_getElem? (i := 1338) (by decide +kernel)⟩
theorem lw_p49 : lw_okq (⟨"SpellTurnerModel", "listedAs", "(I)I"⟩, 71) := ⟨⟨by decide +kernel, by decide +kernel⟩, List.mem_of_getElem? (i := 1020) (by decide +kernel), List.mem_of_getElem? (i := 1341) (by decide +kernel), List.mem_of_getElem? (i := 1342) (by decide +kernel)⟩
theorem lw_p50 : lw_okq (⟨"SpellTurnerModel", "makeWays", "(I)V"⟩, 71) := ⟨⟨by decide +kernel, by decide +kernel⟩, List.mem_of_getElem? (i := 1020) (by decide +kernel), List.mem_of_getElem? (i := 1348) (by decide +kernel), List.mem_of_getElem? (i := 1349) (by decide +kernel)⟩
theorem lw_p51 : lw_okq (⟨"SpellTurnerModel", "isWordPart", "(III)Z"⟩, 71) := ⟨⟨by decide +kernel, by decide +kernel⟩, List.mem_of_getElem? (i := 1020) (by decide +kernel), List.mem_of_getElem? (i := 1352) (by decide +kernel), List.mem_of_getElem? (i := 1353) (by decide +kernel)⟩
theorem lw_p52 : lw_okq (⟨"SpellTurnerModel", "part", "(III)V"⟩, 71) := ⟨⟨by decide +kernel, by decide +kernel⟩, List.mem_of_getElem? (i := 1020) (by decide +kernel), List.mem_of_getElem? (i := 1356) (by decide +kernel), List.mem_of_getElem? (i := 1357) (by decide +kernel)⟩
theorem lw_p53 : lw_okq (⟨"SpellTurnerModel", "makeForm", "(II)V"⟩, 71) := ⟨⟨by decide +kernel, by decide +kernel⟩, List.mem_of_getElem? (i := 1020) (by decide +kernel), List.mem_of_getElem? (i := 1360) (by decide +kernel), List.mem_of_getElem? (i := 1361) (by decide +kernel)⟩
theorem lw_p54 : lw_okq (⟨"SpellTurnerModel", "lawThrough", "(I)V"⟩, 71) := ⟨⟨by decide +kernel, by decide +kernel⟩, List.mem_of_getElem? (i := 1020) (by decide +kernel), List.mem_of_getElem? (i := 1364) (by decide +kernel), List.mem_of_getElem? (i := 1365) (by decide +kernel)⟩
theorem lw_p55 : lw_okq (⟨"SpellTurnerModel", "stands", "(I[BII)Z"⟩, 71) := ⟨⟨by decide +kernel, by decide +kernel⟩, List.mem_of_getElem? (i := 1020) (by decide +kernel), List.mem_of_getElem? (i := 1368) (by decide +kernel), List.mem_of_getElem? (i := 1369) (by decide +kernel)⟩
theorem lw_p56 : lw_okq (⟨"SpellTurnerModel", "make", "()V"⟩, 71) := ⟨⟨by decide +kernel, by decide +kernel⟩, List.mem_of_getElem? (i := 1020) (by decide +kernel), List.mem_of_getElem? (i := 1396) (by decide +kernel), List.mem_of_getElem? (i := 1397) (by decide +kernel)⟩
theorem lw_p57 : lw_okq (⟨"SpellTurnerModel", "hasForm", "(II[BII)Z"⟩, 71) := ⟨⟨by decide +kernel, by decide +kernel⟩, List.mem_of_getElem? (i := 1020) (by decide +kernel), List.mem_of_getElem? (i := 1400) (by decide +kernel), List.mem_of_getElem? (i := 1401) (by decide +kernel)⟩
theorem lw_p58 : lw_okq (⟨"SpellTurnerModel", "collide", "(III)Z"⟩, 71) := ⟨⟨by decide +kernel, by decide +kernel⟩, List.mem_of_getElem? (i := 1020) (by decide +kernel), List.mem_of_getElem? (i := 1412) (by decide +kernel), List.mem_of_getElem? (i := 1413) (by decide +kernel)⟩
theorem lw_p59 : lw_okq (⟨"SpellTurnerModel", "rhymeAt", "(III)Z"⟩, 71) := ⟨⟨by decide +kernel, by decide +kernel⟩, List.mem_of_getElem? (i := 1020) (by decide +kernel), List.mem_of_getElem? (i := 1427) (by decide +kernel), List.mem_of_getElem? (i := 1428) (by decide +kernel)⟩
theorem lw_p60 : lw_okq (⟨"SpellTurnerModel", "hasNought", "(I)Z"⟩, 71) := ⟨⟨by decide +kernel, by decide +kernel⟩, List.mem_of_getElem? (i := 1020) (by decide +kernel), List.mem_of_getElem? (i := 1443) (by decide +kernel), List.mem_of_getElem? (i := 1444) (by decide +kernel)⟩
theorem lw_p61 : lw_okq (⟨"SpellTurnerModel", "quoted", "(II)I"⟩, 71) := ⟨⟨by decide +kernel, by decide +kernel⟩, List.mem_of_getElem? (i := 1020) (by decide +kernel), List.mem_of_getElem? (i := 1447) (by decide +kernel), List.mem_of_getElem? (i := 1448) (by decide +kernel)⟩
theorem lw_p62 : lw_okq (⟨"SpellTurnerModel", "write1", "([BII)Z"⟩, 71) := ⟨⟨by decide +kernel, by decide +kernel⟩, List.mem_of_getElem? (i := 1020) (by decide +kernel), List.mem_of_getElem? (i := 1451) (by decide +kernel), List.mem_of_getElem? (i := 1452) (by decide +kernel)⟩
theorem lw_p63 : lw_okq (⟨"SpellTurnerModel", "writeWord", "(IIII)Z"⟩, 71) := ⟨⟨by decide +kernel, by decide +kernel⟩, List.mem_of_getElem? (i := 1020) (by decide +kernel), List.mem_of_getElem? (i := 1458) (by decide +kernel), List.mem_of_getElem? (i := 1459) (by decide +kernel)⟩
def lw_privs_4 : List (MethodName × Nat) := [(⟨"SpellTurnerModel", "turnBy", "(I)V"⟩, 71), (⟨"SpellTurnerModel", "listedAs", "(I)I"⟩, 71), (⟨"SpellTurnerModel", "makeWays", "(I)V"⟩, 71), (⟨"SpellTurnerModel", "isWordPart", "(III)Z"⟩, 71), (⟨"SpellTurnerModel", "part", "(III)V"⟩, 71), (⟨"SpellTurnerModel", "makeForm", "(II)V"⟩, 71), (⟨"SpellTurnerModel", "lawThrough", "(I)V"⟩, 71), (⟨"SpellTurnerModel", "stands", "(I[BII)Z"⟩, 71), (⟨"SpellTurnerModel", "make", "()V"⟩, 71), (⟨"SpellTurnerModel", "hasForm", "(II[BII)Z"⟩, 71), (⟨"SpellTurnerModel", "collide", "(III)Z"⟩, 71), (⟨"SpellTurnerModel", "rhymeAt", "(III)Z"⟩, 71), (⟨"SpellTurnerModel", "hasNought", "(I)Z"⟩, 71), (⟨"SpellTurnerModel", "quoted", "(II)I"⟩, 71), (⟨"SpellTurnerModel", "write1", "([BII)Z"⟩, 71), (⟨"SpellTurnerModel", "writeWord", "(IIII)Z"⟩, 71)]
theorem lw_r4 : ∀ q ∈ lw_privs_4, lw_okq q := List.forall_mem_cons.mpr ⟨lw_p48, List.forall_mem_cons.mpr ⟨lw_p49, List.forall_mem_cons.mpr ⟨lw_p50, List.forall_mem_cons.mpr ⟨lw_p51, List.forall_mem_cons.mpr ⟨lw_p52, List.forall_mem_cons.mpr ⟨lw_p53, List.forall_mem_cons.mpr ⟨lw_p54, List.forall_mem_cons.mpr ⟨lw_p55, List.forall_mem_cons.mpr ⟨lw_p56, List.forall_mem_cons.mpr ⟨lw_p57, List.forall_mem_cons.mpr ⟨lw_p58, List.forall_mem_cons.mpr ⟨lw_p59, List.forall_mem_cons.mpr ⟨lw_p60, List.forall_mem_cons.mpr ⟨lw_p61, List.forall_mem_cons.mpr ⟨lw_p62, List.forall_mem_cons.mpr ⟨lw_p63, fun _ h => absurd h List.not_mem_nil⟩⟩⟩⟩⟩⟩⟩⟩⟩⟩⟩⟩⟩⟩⟩⟩
theorem lw_p64 : lw_okq (⟨"SpellTurnerModel", "isName", "(II)Z"⟩, 71) := ⟨⟨by decide +kernel, by decide +kernel⟩, List.mem_of_getElem? (i := 1020) (by decide +kernel), List.mem_of_getElem? (i := 1462) (by decide +kernel), List.mem_of_getElem? (i := 1463) (by decide +kernel)⟩
theorem lw_p65 : lw_okq (⟨"SpellTurnerModel", "isKnown", "(III)Z"⟩, 71) := ⟨⟨by decide +kernel, by decide +kernel⟩, List.mem_of_getElem? (i := 1020) (by decide +kernel), List.mem_of_getElem? (i := 1478) (by decide +kernel), List.mem_of_getElem? (i := 1479) (by decide +kernel)⟩
theorem lw_p66 : lw_okq (⟨"SpellTurnerModel", "onward", "(III)I"⟩, 71) := ⟨⟨by decide +kernel, by decide +kernel⟩, List.mem_of_getElem? (i := 1020) (by decide +kernel), List.mem_of_getElem? (i := 1482) (by decide +kernel), List.mem_of_getElem? (i := 1483) (by decide +kernel)⟩
def lw_privs_5 : List (MethodName × Nat) := [(⟨"SpellTurnerModel", "isName", "(II)Z"⟩, 71), (⟨"SpellTurnerModel", "isKnown", "(III)Z"⟩, 71), (⟨"SpellTurnerModel", "onward", "(III)I"⟩, 71)]
theorem lw_r5 : ∀ q ∈ lw_privs_5, lw_okq q := List.forall_mem_cons.mpr ⟨lw_p64, List.forall_mem_cons.mpr ⟨lw_p65, List.forall_mem_cons.mpr ⟨lw_p66, fun _ h => absurd h List.not_mem_nil⟩⟩⟩
def lw_privs : List (MethodName × Nat) := lw_privs_1 ++ (lw_privs_2 ++ (lw_privs_3 ++ (lw_privs_4 ++ (lw_privs_5))))
def lw_tbl : List Cond := k2_sels lw_privs ++ tables_1
theorem lw_privs_ok : ∀ q ∈ lw_privs, lw_okq q := by
  show ∀ q ∈ lw_privs_1 ++ (lw_privs_2 ++ (lw_privs_3 ++ (lw_privs_4 ++ (lw_privs_5)))), lw_okq q
  exact List.forall_mem_append.mpr ⟨lw_r1, List.forall_mem_append.mpr ⟨lw_r2, List.forall_mem_append.mpr ⟨lw_r3, List.forall_mem_append.mpr ⟨lw_r4, lw_r5⟩⟩⟩⟩
-- ===== end of PART A; then your names; then what follows =====
end
section
/-! ===== BEGIN words of one list among another's, by their places ===== -/
theorem goodIn_r {big : List Cond} (ws : List Cond) (ps : List Nat) (hp : ws = ps.filterMap (fun i => big[i]?)) (h : ws.all goodWord = true) : GoodIn big ws := by
  intro w hw
  have h1 := List.all_eq_true.mp h w hw
  rw [hp] at hw
  obtain ⟨i, -, hi⟩ := List.mem_filterMap.mp hw
  have hm : w ∈ big := by first | exact List.mem_of_getElem? hi | exact List.getElem?_mem hi
  exact ⟨hm, good_of_word h1⟩
theorem goodIn_app {big a b : List Cond} (ha : GoodIn big a) (hb : GoodIn big b) : GoodIn big (a ++ b) := fun w h => (List.mem_append.mp h).elim (ha w) (hb w)
theorem goodIn_ca {big a b : List Cond} {c : Cond} (ha : GoodIn big (c :: a)) (hb : GoodIn big b) : GoodIn big (c :: (a ++ b)) := fun w h => (List.mem_cons.mp h).elim (fun e => ha w (List.mem_cons.mpr (Or.inl e))) (fun h => (List.mem_append.mp h).elim (fun h => ha w (List.mem_cons.mpr (Or.inr h))) (hb w))
theorem goodIn_sub {big ws : List Cond} (hm : ∀ w ∈ ws, w ∈ big) (h : ws.all goodWord = true) : GoodIn big ws := fun w hw => ⟨hm w hw, good_of_word (List.all_eq_true.mp h w hw)⟩
/-! ===== END ===== -/

/-! ===== BEGIN printed: names, fields, word lists, decode rows ===== -/
def RX0 : String := "SpellTurner$Book"
def TX0 : u_T := fun k => match k with
  | 0 => ("SpellTurner$Book", "words", "LSpellTurner$WordRow;", true)
  | 1 => ("SpellTurner$Book", "forms", "[LSpellTurner$WordRow;", true)
  | 2 => ("SpellTurner$Book", "lawsUsed", "[J", true)
  | 3 => ("SpellTurner$Book", "filled", "[I", true)
  | 4 => ("SpellTurner$Book", "spare", "LSpellTurner$WordRow;", true)
  | _ => ("SpellTurner$Book", "nothing", "LSpellTurner$WordRow;", true)
def tyX0 : Nat → FieldType := fun k => match k with
  | 0 => .object "SpellTurner$WordRow"
  | 1 => .array (.object "SpellTurner$WordRow")
  | 2 => .array .long
  | 3 => .array .int
  | 4 => .object "SpellTurner$WordRow"
  | _ => .object "SpellTurner$WordRow"
abbrev wsX00 : List Cond := u_ws RX0 TX0 6
theorem nmX0 : ∀ a, a < 6 → ∀ b, b < 6 → a ≠ b → (TX0 a).2.1 ≠ (TX0 b).2.1 := by decide +kernel
theorem tyX0_ok : ∀ k, k < 6 → parseFieldDescriptor (TX0 k).2.2.1 = some (tyX0 k) := by decide +kernel
abbrev cX0_init : ByteArray := prog_2_method_1_code
def yX0_init : MethodName := ⟨RX0, "<init>", "()V"⟩
abbrev cX0_fill : ByteArray := prog_2_method_2_code
def yX0_fill : MethodName := ⟨RX0, "fill", "(I[LSpellTurner$Reform;LSpellTurner$Turner;)V"⟩
abbrev cX0_formsAt : ByteArray := prog_2_method_3_code
def yX0_formsAt : MethodName := ⟨RX0, "formsAt", "(II)LSpellTurner$WordRow;"⟩
abbrev cX0_hasForm : ByteArray := prog_2_method_4_code
def yX0_hasForm : MethodName := ⟨RX0, "hasForm", "(I[BII)Z"⟩
abbrev cX0_collide : ByteArray := prog_2_method_5_code
def yX0_collide : MethodName := ⟨RX0, "collide", "(III)Z"⟩
abbrev cX0_formsRhyme : ByteArray := prog_2_method_6_code
def yX0_formsRhyme : MethodName := ⟨RX0, "formsRhyme", "(III)Z"⟩
abbrev cX0_isSuch : ByteArray := prog_2_method_7_code
def yX0_isSuch : MethodName := ⟨RX0, "isSuch", "(III)Z"⟩
abbrev cX0_usesLaw : ByteArray := prog_2_method_8_code
def yX0_usesLaw : MethodName := ⟨RX0, "usesLaw", "(III)Z"⟩
def RX1 : String := "SpellTurner$Law"
def TX1 : u_T := fun k => match k with
  | 0 => ("SpellTurner$Law", "first", "[B", true)
  | 1 => ("SpellTurner$Law", "second", "[B", true)
  | 2 => ("SpellTurner$Law", "ahead", "[B", false)
  | 3 => ("SpellTurner$Law", "behind", "[B", false)
  | 4 => ("SpellTurner$Law", "atStart", "Z", false)
  | _ => ("SpellTurner$Law", "atEnd", "Z", false)
def tyX1 : Nat → FieldType := fun k => match k with
  | 0 => .array .byte
  | 1 => .array .byte
  | 2 => .array .byte
  | 3 => .array .byte
  | 4 => .boolean
  | _ => .boolean
abbrev wsX10 : List Cond := u_ws RX1 TX1 6
theorem nmX1 : ∀ a, a < 6 → ∀ b, b < 6 → a ≠ b → (TX1 a).2.1 ≠ (TX1 b).2.1 := by decide +kernel
theorem tyX1_ok : ∀ k, k < 6 → parseFieldDescriptor (TX1 k).2.2.1 = some (tyX1 k) := by decide +kernel
abbrev cX1_init : ByteArray := prog_3_method_1_code
def yX1_init : MethodName := ⟨RX1, "<init>", "([B[B)V"⟩
abbrev cX1_standsAt : ByteArray := prog_3_method_2_code
def yX1_standsAt : MethodName := ⟨RX1, "standsAt", "([BII[BI)Z"⟩
def RX2 : String := "SpellTurner$Mixture"
def TX2 : u_T := fun k => match k with
  | 0 => ("SpellTurner$Mixture", "costs", "[I", true)
  | 1 => ("SpellTurner$Mixture", "least", "[I", true)
  | 2 => ("SpellTurner$Mixture", "told", "[I", true)
  | 3 => ("SpellTurner$Mixture", "toldLines", "I", false)
  | 4 => ("SpellTurner$Mixture", "lines", "I", false)
  | _ => ("SpellTurner$Mixture", "stages", "I", false)
def tyX2 : Nat → FieldType := fun k => match k with
  | 0 => .array .int
  | 1 => .array .int
  | 2 => .array .int
  | 3 => .int
  | 4 => .int
  | _ => .int
abbrev wsX20 : List Cond := u_ws RX2 TX2 6
theorem nmX2 : ∀ a, a < 6 → ∀ b, b < 6 → a ≠ b → (TX2 a).2.1 ≠ (TX2 b).2.1 := by decide +kernel
theorem tyX2_ok : ∀ k, k < 6 → parseFieldDescriptor (TX2 k).2.2.1 = some (tyX2 k) := by decide +kernel
abbrev cX2_init : ByteArray := prog_4_method_1_code
def yX2_init : MethodName := ⟨RX2, "<init>", "()V"⟩
abbrev cX2_begin : ByteArray := prog_4_method_2_code
def yX2_begin : MethodName := ⟨RX2, "begin", "(II)V"⟩
abbrev cX2_charge : ByteArray := prog_4_method_3_code
def yX2_charge : MethodName := ⟨RX2, "charge", "(II)V"⟩
abbrev cX2_settle : ByteArray := prog_4_method_4_code
def yX2_settle : MethodName := ⟨RX2, "settle", "(I)I"⟩
abbrev cX2_stageOf : ByteArray := prog_4_method_5_code
def yX2_stageOf : MethodName := ⟨RX2, "stageOf", "(I)I"⟩
abbrev cX2_cheapest : ByteArray := prog_4_method_6_code
def yX2_cheapest : MethodName := ⟨RX2, "cheapest", "(III)I"⟩
abbrev cX2_cost : ByteArray := prog_4_method_7_code
def yX2_cost : MethodName := ⟨RX2, "cost", "(IIII)I"⟩
def RX3 : String := "SpellTurner$Partings"
def TX3 : u_T := fun k => match k with
  | 0 => ("SpellTurner$Partings", "count", "I", false)
  | 1 => ("SpellTurner$Partings", "sizes", "[I", true)
  | 2 => ("SpellTurner$Partings", "picks", "[B", true)
  | 3 => ("SpellTurner$Partings", "fitting", "[B", true)
  | 4 => ("SpellTurner$Partings", "closes", "[Z", true)
  | 5 => ("SpellTurner$Partings", "path", "[B", true)
  | _ => ("SpellTurner$Partings", "parts", "LSpellTurner$WordRow;", false)
def tyX3 : Nat → FieldType := fun k => match k with
  | 0 => .int
  | 1 => .array .int
  | 2 => .array .byte
  | 3 => .array .byte
  | 4 => .array .boolean
  | 5 => .array .byte
  | _ => .object "SpellTurner$WordRow"
abbrev wsX30 : List Cond := u_ws RX3 TX3 7
theorem nmX3 : ∀ a, a < 7 → ∀ b, b < 7 → a ≠ b → (TX3 a).2.1 ≠ (TX3 b).2.1 := by decide +kernel
theorem tyX3_ok : ∀ k, k < 7 → parseFieldDescriptor (TX3 k).2.2.1 = some (tyX3 k) := by decide +kernel
abbrev cX3_init : ByteArray := prog_5_method_1_code
def yX3_init : MethodName := ⟨RX3, "<init>", "()V"⟩
abbrev cX3_find : ByteArray := prog_5_method_2_code
def yX3_find : MethodName := ⟨RX3, "find", "(LSpellTurner$WordRow;[BII)V"⟩
abbrev cX3_pick : ByteArray := prog_5_method_3_code
def yX3_pick : MethodName := ⟨RX3, "pick", "(II)I"⟩
abbrev cX3_lengthOf : ByteArray := prog_5_method_4_code
def yX3_lengthOf : MethodName := ⟨RX3, "lengthOf", "(II)I"⟩
abbrev cX3_markFitting : ByteArray := prog_5_method_5_code
def yX3_markFitting : MethodName := ⟨RX3, "markFitting", "([BIII)V"⟩
abbrev cX3_walk : ByteArray := prog_5_method_6_code
def yX3_walk : MethodName := ⟨RX3, "walk", "(III)V"⟩
abbrev cX3_note : ByteArray := prog_5_method_7_code
def yX3_note : MethodName := ⟨RX3, "note", "(I)V"⟩
def RX4 : String := "SpellTurner$Reader"
def TX4 : u_T := fun k => match k with
  | 0 => ("SpellTurner$Reader", "faultKind", "I", false)
  | 1 => ("SpellTurner$Reader", "faultPlace", "I", false)
  | 2 => ("SpellTurner$Reader", "text", "[B", false)
  | 3 => ("SpellTurner$Reader", "size", "I", false)
  | 4 => ("SpellTurner$Reader", "at", "I", false)
  | 5 => ("SpellTurner$Reader", "token", "I", false)
  | 6 => ("SpellTurner$Reader", "place", "I", false)
  | 7 => ("SpellTurner$Reader", "start", "I", false)
  | _ => ("SpellTurner$Reader", "length", "I", false)
def tyX4 : Nat → FieldType := fun k => match k with
  | 0 => .int
  | 1 => .int
  | 2 => .array .byte
  | 3 => .int
  | 4 => .int
  | 5 => .int
  | 6 => .int
  | 7 => .int
  | _ => .int
abbrev wsX40 : List Cond := u_ws RX4 TX4 9
theorem nmX4 : ∀ a, a < 9 → ∀ b, b < 9 → a ≠ b → (TX4 a).2.1 ≠ (TX4 b).2.1 := by decide +kernel
theorem tyX4_ok : ∀ k, k < 9 → parseFieldDescriptor (TX4 k).2.2.1 = some (tyX4 k) := by decide +kernel
abbrev cX4_init : ByteArray := prog_6_method_1_code
def yX4_init : MethodName := ⟨RX4, "<init>", "()V"⟩
abbrev cX4_read : ByteArray := prog_6_method_2_code
def yX4_read : MethodName := ⟨RX4, "read", "([BILSpellTurner$Reform;)V"⟩
abbrev cX4_readKeep : ByteArray := prog_6_method_3_code
def yX4_readKeep : MethodName := ⟨RX4, "readKeep", "(LSpellTurner$Reform;)V"⟩
abbrev cX4_readList : ByteArray := prog_6_method_4_code
def yX4_readList : MethodName := ⟨RX4, "readList", "(LSpellTurner$Reform;)V"⟩
abbrev cX4_readPart : ByteArray := prog_6_method_5_code
def yX4_readPart : MethodName := ⟨RX4, "readPart", "(LSpellTurner$Reform;)V"⟩
abbrev cX4_readLaw : ByteArray := prog_6_method_6_code
def yX4_readLaw : MethodName := ⟨RX4, "readLaw", "(LSpellTurner$Reform;)V"⟩
abbrev cX4_readSide : ByteArray := prog_6_method_7_code
def yX4_readSide : MethodName := ⟨RX4, "readSide", "(LSpellTurner$Law;)V"⟩
abbrev cX4_hasRoom : ByteArray := prog_6_method_8_code
def yX4_hasRoom : MethodName := ⟨RX4, "hasRoom", "(Z)Z"⟩
abbrev cX4_isNew : ByteArray := prog_6_method_9_code
def yX4_isNew : MethodName := ⟨RX4, "isNew", "(Z)Z"⟩
abbrev cX4_takeNew : ByteArray := prog_6_method_10_code
def yX4_takeNew : MethodName := ⟨RX4, "takeNew", "(LSpellTurner$WordRow;)Z"⟩
abbrev cX4_takeLetters : ByteArray := prog_6_method_11_code
def yX4_takeLetters : MethodName := ⟨RX4, "takeLetters", "(Z)Z"⟩
abbrev cX4_takeTo : ByteArray := prog_6_method_12_code
def yX4_takeTo : MethodName := ⟨RX4, "takeTo", "()Z"⟩
abbrev cX4_takeClose : ByteArray := prog_6_method_13_code
def yX4_takeClose : MethodName := ⟨RX4, "takeClose", "()Z"⟩
abbrev cX4_blame : ByteArray := prog_6_method_14_code
def yX4_blame : MethodName := ⟨RX4, "blame", "(I)Z"⟩
abbrev cX4_letters : ByteArray := prog_6_method_15_code
def yX4_letters : MethodName := ⟨RX4, "letters", "()[B"⟩
abbrev cX4_wordIs : ByteArray := prog_6_method_16_code
def yX4_wordIs : MethodName := ⟨RX4, "wordIs", "(Ljava/lang/String;)Z"⟩
abbrev cX4_nextToken : ByteArray := prog_6_method_17_code
def yX4_nextToken : MethodName := ⟨RX4, "nextToken", "()V"⟩
abbrev cX4_scanRun : ByteArray := prog_6_method_18_code
def yX4_scanRun : MethodName := ⟨RX4, "scanRun", "(I)V"⟩
def RX5 : String := "SpellTurner$Reform"
def TX5 : u_T := fun k => match k with
  | 0 => ("SpellTurner$Reform", "day", "I", false)
  | 1 => ("SpellTurner$Reform", "laws", "[LSpellTurner$Law;", true)
  | 2 => ("SpellTurner$Reform", "lawCount", "I", false)
  | 3 => ("SpellTurner$Reform", "parts", "LSpellTurner$WordRow;", true)
  | 4 => ("SpellTurner$Reform", "entries", "LSpellTurner$WordRow;", true)
  | 5 => ("SpellTurner$Reform", "becomes", "LSpellTurner$WordRow;", true)
  | 6 => ("SpellTurner$Reform", "kept", "[Z", true)
  | 7 => ("SpellTurner$Reform", "keptCount", "I", false)
  | 8 => ("SpellTurner$Reform", "turnedParts", "LSpellTurner$WordRow;", true)
  | 9 => ("SpellTurner$Reform", "partHolds", "[Z", true)
  | _ => ("SpellTurner$Reform", "partUses", "[J", true)
def tyX5 : Nat → FieldType := fun k => match k with
  | 0 => .int
  | 1 => .array (.object "SpellTurner$Law")
  | 2 => .int
  | 3 => .object "SpellTurner$WordRow"
  | 4 => .object "SpellTurner$WordRow"
  | 5 => .object "SpellTurner$WordRow"
  | 6 => .array .boolean
  | 7 => .int
  | 8 => .object "SpellTurner$WordRow"
  | 9 => .array .boolean
  | _ => .array .long
abbrev wsX50 : List Cond := u_ws RX5 TX5 11
theorem nmX5 : ∀ a, a < 11 → ∀ b, b < 11 → a ≠ b → (TX5 a).2.1 ≠ (TX5 b).2.1 := by decide +kernel
theorem tyX5_ok : ∀ k, k < 11 → parseFieldDescriptor (TX5 k).2.2.1 = some (tyX5 k) := by decide +kernel
abbrev cX5_init : ByteArray := prog_7_method_1_code
def yX5_init : MethodName := ⟨RX5, "<init>", "()V"⟩
abbrev cX5_clear : ByteArray := prog_7_method_2_code
def yX5_clear : MethodName := ⟨RX5, "clear", "(I)V"⟩
abbrev cX5_isKept : ByteArray := prog_7_method_3_code
def yX5_isKept : MethodName := ⟨RX5, "isKept", "(I)Z"⟩
abbrev cX5_addLaw : ByteArray := prog_7_method_4_code
def yX5_addLaw : MethodName := ⟨RX5, "addLaw", "(LSpellTurner$Law;)V"⟩
abbrev cX5_addKept : ByteArray := prog_7_method_5_code
def yX5_addKept : MethodName := ⟨RX5, "addKept", "([BII)V"⟩
abbrev cX5_addListed : ByteArray := prog_7_method_6_code
def yX5_addListed : MethodName := ⟨RX5, "addListed", "([BII)V"⟩
abbrev cX5_addEntry : ByteArray := prog_7_method_7_code
def yX5_addEntry : MethodName := ⟨RX5, "addEntry", "([BIIZ)V"⟩
def RX6 : String := "SpellTurner$Scribe"
def TX6 : u_T := fun k => match k with
  | 0 => ("SpellTurner$Scribe", "told", "[B", false)
  | 1 => ("SpellTurner$Scribe", "page", "[B", false)
  | 2 => ("SpellTurner$Scribe", "toldTally", "[I", false)
  | 3 => ("SpellTurner$Scribe", "tally", "[I", false)
  | 4 => ("SpellTurner$Scribe", "hasTold", "Z", false)
  | 5 => ("SpellTurner$Scribe", "toldSize", "I", false)
  | 6 => ("SpellTurner$Scribe", "size", "I", false)
  | 7 => ("SpellTurner$Scribe", "copied", "I", false)
  | _ => ("SpellTurner$Scribe", "fits", "Z", false)
def tyX6 : Nat → FieldType := fun k => match k with
  | 0 => .array .byte
  | 1 => .array .byte
  | 2 => .array .int
  | 3 => .array .int
  | 4 => .boolean
  | 5 => .int
  | 6 => .int
  | 7 => .int
  | _ => .boolean
abbrev wsX60 : List Cond := u_ws RX6 TX6 9
theorem nmX6 : ∀ a, a < 9 → ∀ b, b < 9 → a ≠ b → (TX6 a).2.1 ≠ (TX6 b).2.1 := by decide +kernel
theorem tyX6_ok : ∀ k, k < 9 → parseFieldDescriptor (TX6 k).2.2.1 = some (tyX6 k) := by decide +kernel
abbrev cX6_init : ByteArray := prog_8_method_1_code
def yX6_init : MethodName := ⟨RX6, "<init>", "()V"⟩
abbrev cX6_begin : ByteArray := prog_8_method_2_code
def yX6_begin : MethodName := ⟨RX6, "begin", "()V"⟩
abbrev cX6_leaveName : ByteArray := prog_8_method_3_code
def yX6_leaveName : MethodName := ⟨RX6, "leaveName", "()V"⟩
abbrev cX6_leaveLost : ByteArray := prog_8_method_4_code
def yX6_leaveLost : MethodName := ⟨RX6, "leaveLost", "()V"⟩
abbrev cX6_put : ByteArray := prog_8_method_5_code
def yX6_put : MethodName := ⟨RX6, "put", "(LSpellTurner$TextWords;LSpellTurner$WordRow;)V"⟩
abbrev cX6_finish : ByteArray := prog_8_method_6_code
def yX6_finish : MethodName := ⟨RX6, "finish", "([BI)I"⟩
abbrev cX6_byteAt : ByteArray := prog_8_method_7_code
def yX6_byteAt : MethodName := ⟨RX6, "byteAt", "(I)I"⟩
abbrev cX6_tallyOf : ByteArray := prog_8_method_8_code
def yX6_tallyOf : MethodName := ⟨RX6, "tallyOf", "(I)I"⟩
abbrev cX6_append : ByteArray := prog_8_method_9_code
def yX6_append : MethodName := ⟨RX6, "append", "([BII)V"⟩
def RX7 : String := "SpellTurner$Tape"
def TX7 : u_T := fun k => match k with
  | 0 => ("SpellTurner$Tape", "bytes", "[B", true)
  | _ => ("SpellTurner$Tape", "length", "I", false)
def tyX7 : Nat → FieldType := fun k => match k with
  | 0 => .array .byte
  | _ => .int
abbrev wsX70 : List Cond := u_ws RX7 TX7 2
theorem nmX7 : ∀ a, a < 2 → ∀ b, b < 2 → a ≠ b → (TX7 a).2.1 ≠ (TX7 b).2.1 := by decide +kernel
theorem tyX7_ok : ∀ k, k < 2 → parseFieldDescriptor (TX7 k).2.2.1 = some (tyX7 k) := by decide +kernel
abbrev cX7_init : ByteArray := prog_9_method_1_code
def yX7_init : MethodName := ⟨RX7, "<init>", "()V"⟩
abbrev cX7_append : ByteArray := prog_9_method_2_code
def yX7_append : MethodName := ⟨RX7, "append", "(I)V"⟩
abbrev cX7_take : ByteArray := prog_9_method_3_code
def yX7_take : MethodName := ⟨RX7, "take", "()I"⟩
abbrev cX7_isWord : ByteArray := prog_9_method_4_code
def yX7_isWord : MethodName := ⟨RX7, "isWord", "(I)Z"⟩
abbrev cX7_hasZero : ByteArray := prog_9_method_5_code
def yX7_hasZero : MethodName := ⟨RX7, "hasZero", "(I)Z"⟩
abbrev cX7_lines : ByteArray := prog_9_method_6_code
def yX7_lines : MethodName := ⟨RX7, "lines", "(I)I"⟩
abbrev cX7_occurrences : ByteArray := prog_9_method_7_code
def yX7_occurrences : MethodName := ⟨RX7, "occurrences", "(II)I"⟩
def RX8 : String := "SpellTurner$TextWords"
def TX8 : u_T := fun k => match k with
  | 0 => ("SpellTurner$TextWords", "start", "I", false)
  | 1 => ("SpellTurner$TextWords", "length", "I", false)
  | 2 => ("SpellTurner$TextWords", "lineNumber", "I", false)
  | 3 => ("SpellTurner$TextWords", "isName", "Z", false)
  | 4 => ("SpellTurner$TextWords", "text", "[B", false)
  | 5 => ("SpellTurner$TextWords", "size", "I", false)
  | 6 => ("SpellTurner$TextWords", "at", "I", false)
  | _ => ("SpellTurner$TextWords", "quoted", "Z", false)
def tyX8 : Nat → FieldType := fun k => match k with
  | 0 => .int
  | 1 => .int
  | 2 => .int
  | 3 => .boolean
  | 4 => .array .byte
  | 5 => .int
  | 6 => .int
  | _ => .boolean
abbrev wsX80 : List Cond := u_ws RX8 TX8 8
theorem nmX8 : ∀ a, a < 8 → ∀ b, b < 8 → a ≠ b → (TX8 a).2.1 ≠ (TX8 b).2.1 := by decide +kernel
theorem tyX8_ok : ∀ k, k < 8 → parseFieldDescriptor (TX8 k).2.2.1 = some (tyX8 k) := by decide +kernel
abbrev cX8_init : ByteArray := prog_10_method_1_code
def yX8_init : MethodName := ⟨RX8, "<init>", "()V"⟩
abbrev cX8_begin : ByteArray := prog_10_method_2_code
def yX8_begin : MethodName := ⟨RX8, "begin", "([BI)V"⟩
abbrev cX8_next : ByteArray := prog_10_method_3_code
def yX8_next : MethodName := ⟨RX8, "next", "()Z"⟩
abbrev cX8_takeWord : ByteArray := prog_10_method_4_code
def yX8_takeWord : MethodName := ⟨RX8, "takeWord", "()V"⟩
abbrev cX8_isLetter : ByteArray := prog_10_method_5_code
def yX8_isLetter : MethodName := ⟨RX8, "isLetter", "(B)Z"⟩
def RX9 : String := "SpellTurner$Turner"
def TX9 : u_T := fun k => match k with
  | 0 => ("SpellTurner$Turner", "partings", "LSpellTurner$Partings;", true)
  | 1 => ("SpellTurner$Turner", "now", "[B", false)
  | 2 => ("SpellTurner$Turner", "next", "[B", false)
  | 3 => ("SpellTurner$Turner", "length", "I", false)
  | 4 => ("SpellTurner$Turner", "used", "J", false)
  | 5 => ("SpellTurner$Turner", "whole", "[B", true)
  | 6 => ("SpellTurner$Turner", "ahead", "LSpellTurner$WordRow;", false)
  | _ => ("SpellTurner$Turner", "behind", "LSpellTurner$WordRow;", false)
def tyX9 : Nat → FieldType := fun k => match k with
  | 0 => .object "SpellTurner$Partings"
  | 1 => .array .byte
  | 2 => .array .byte
  | 3 => .int
  | 4 => .long
  | 5 => .array .byte
  | 6 => .object "SpellTurner$WordRow"
  | _ => .object "SpellTurner$WordRow"
abbrev wsX90 : List Cond := u_ws RX9 TX9 8
theorem nmX9 : ∀ a, a < 8 → ∀ b, b < 8 → a ≠ b → (TX9 a).2.1 ≠ (TX9 b).2.1 := by decide +kernel
theorem tyX9_ok : ∀ k, k < 8 → parseFieldDescriptor (TX9 k).2.2.1 = some (tyX9 k) := by decide +kernel
abbrev cX9_init : ByteArray := prog_11_method_1_code
def yX9_init : MethodName := ⟨RX9, "<init>", "()V"⟩
abbrev cX9_turnParts : ByteArray := prog_11_method_2_code
def yX9_turnParts : MethodName := ⟨RX9, "turnParts", "(LSpellTurner$Reform;)V"⟩
abbrev cX9_through : ByteArray := prog_11_method_3_code
def yX9_through : MethodName := ⟨RX9, "through", "([LSpellTurner$Reform;II[BII)LSpellTurner$WordRow;"⟩
abbrev cX9_turnForms : ByteArray := prog_11_method_4_code
def yX9_turnForms : MethodName := ⟨RX9, "turnForms", "(LSpellTurner$Reform;LSpellTurner$WordRow;LSpellTurner$WordRow;)J"⟩
abbrev cX9_turnWord : ByteArray := prog_11_method_5_code
def yX9_turnWord : MethodName := ⟨RX9, "turnWord", "(LSpellTurner$Reform;LSpellTurner$WordRow;ILSpellTurner$WordRow;)J"⟩
abbrev cX9_addEntry : ByteArray := prog_11_method_6_code
def yX9_addEntry : MethodName := ⟨RX9, "addEntry", "(LSpellTurner$Reform;ILSpellTurner$WordRow;)V"⟩
abbrev cX9_turnParting : ByteArray := prog_11_method_7_code
def yX9_turnParting : MethodName := ⟨RX9, "turnParting", "(LSpellTurner$Reform;ILSpellTurner$WordRow;)J"⟩
abbrev cX9_runLaws : ByteArray := prog_11_method_8_code
def yX9_runLaws : MethodName := ⟨RX9, "runLaws", "(LSpellTurner$Reform;[BII)Z"⟩
abbrev cX9_apply : ByteArray := prog_11_method_9_code
def yX9_apply : MethodName := ⟨RX9, "apply", "(LSpellTurner$Law;)Z"⟩
def RX10 : String := "SpellTurner$WordRow"
def TX10 : u_T := fun k => match k with
  | 0 => ("SpellTurner$WordRow", "width", "I", true)
  | 1 => ("SpellTurner$WordRow", "letters", "[B", true)
  | 2 => ("SpellTurner$WordRow", "lengths", "[I", true)
  | _ => ("SpellTurner$WordRow", "count", "I", false)
def tyX10 : Nat → FieldType := fun k => match k with
  | 0 => .int
  | 1 => .array .byte
  | 2 => .array .int
  | _ => .int
abbrev wsX100 : List Cond := u_ws RX10 TX10 4
theorem nmX10 : ∀ a, a < 4 → ∀ b, b < 4 → a ≠ b → (TX10 a).2.1 ≠ (TX10 b).2.1 := by decide +kernel
theorem tyX10_ok : ∀ k, k < 4 → parseFieldDescriptor (TX10 k).2.2.1 = some (tyX10 k) := by decide +kernel
abbrev cX10_init : ByteArray := prog_12_method_1_code
def yX10_init : MethodName := ⟨RX10, "<init>", "(II)V"⟩
abbrev cX10_isSmall : ByteArray := prog_12_method_2_code
def yX10_isSmall : MethodName := ⟨RX10, "isSmall", "(B)Z"⟩
abbrev cX10_isCapital : ByteArray := prog_12_method_3_code
def yX10_isCapital : MethodName := ⟨RX10, "isCapital", "(B)Z"⟩
abbrev cX10_same : ByteArray := prog_12_method_4_code
def yX10_same : MethodName := ⟨RX10, "same", "([BI[BII)Z"⟩
abbrev cX10_isFull : ByteArray := prog_12_method_5_code
def yX10_isFull : MethodName := ⟨RX10, "isFull", "()Z"⟩
abbrev cX10_add : ByteArray := prog_12_method_6_code
def yX10_add : MethodName := ⟨RX10, "add", "([BII)V"⟩
abbrev cX10_addForm : ByteArray := prog_12_method_7_code
def yX10_addForm : MethodName := ⟨RX10, "addForm", "([BII)V"⟩
abbrev cX10_copy : ByteArray := prog_12_method_8_code
def yX10_copy : MethodName := ⟨RX10, "copy", "(LSpellTurner$WordRow;)V"⟩
abbrev cX10_find : ByteArray := prog_12_method_9_code
def yX10_find : MethodName := ⟨RX10, "find", "([BII)I"⟩
abbrev cX10_standsIn : ByteArray := prog_12_method_10_code
def yX10_standsIn : MethodName := ⟨RX10, "standsIn", "(I[BI)Z"⟩
abbrev cX10_endsAlike : ByteArray := prog_12_method_11_code
def yX10_endsAlike : MethodName := ⟨RX10, "endsAlike", "(ILSpellTurner$WordRow;I)Z"⟩
abbrev cX10_letterAt : ByteArray := prog_12_method_12_code
def yX10_letterAt : MethodName := ⟨RX10, "letterAt", "(II)I"⟩
def RX11 : String := "SpellTurner"
def TX11 : u_T := fun k => match k with
  | 0 => ("SpellTurner", "tape", "LSpellTurner$Tape;", true)
  | 1 => ("SpellTurner", "reforms", "[LSpellTurner$Reform;", true)
  | 2 => ("SpellTurner", "reformCount", "I", false)
  | 3 => ("SpellTurner", "latestDay", "I", false)
  | 4 => ("SpellTurner", "draft", "LSpellTurner$Reform;", false)
  | 5 => ("SpellTurner", "reader", "LSpellTurner$Reader;", true)
  | 6 => ("SpellTurner", "turner", "LSpellTurner$Turner;", true)
  | 7 => ("SpellTurner", "latestForms", "LSpellTurner$WordRow;", true)
  | 8 => ("SpellTurner", "latestPartings", "LSpellTurner$Partings;", true)
  | 9 => ("SpellTurner", "book", "LSpellTurner$Book;", true)
  | 10 => ("SpellTurner", "owners", "[I", true)
  | 11 => ("SpellTurner", "ownerCount", "I", false)
  | 12 => ("SpellTurner", "pairs", "[I", true)
  | 13 => ("SpellTurner", "pairCount", "I", false)
  | 14 => ("SpellTurner", "textWords", "LSpellTurner$TextWords;", true)
  | 15 => ("SpellTurner", "scribe", "LSpellTurner$Scribe;", true)
  | _ => ("SpellTurner", "mixture", "LSpellTurner$Mixture;", true)
def tyX11 : Nat → FieldType := fun k => match k with
  | 0 => .object "SpellTurner$Tape"
  | 1 => .array (.object "SpellTurner$Reform")
  | 2 => .int
  | 3 => .int
  | 4 => .object "SpellTurner$Reform"
  | 5 => .object "SpellTurner$Reader"
  | 6 => .object "SpellTurner$Turner"
  | 7 => .object "SpellTurner$WordRow"
  | 8 => .object "SpellTurner$Partings"
  | 9 => .object "SpellTurner$Book"
  | 10 => .array .int
  | 11 => .int
  | 12 => .array .int
  | 13 => .int
  | 14 => .object "SpellTurner$TextWords"
  | 15 => .object "SpellTurner$Scribe"
  | _ => .object "SpellTurner$Mixture"
abbrev wsX110 : List Cond := u_ws RX11 TX11 17
theorem nmX11 : ∀ a, a < 17 → ∀ b, b < 17 → a ≠ b → (TX11 a).2.1 ≠ (TX11 b).2.1 := by decide +kernel
theorem tyX11_ok : ∀ k, k < 17 → parseFieldDescriptor (TX11 k).2.2.1 = some (tyX11 k) := by decide +kernel
abbrev cX11_init : ByteArray := prog_1_method_1_code
def yX11_init : MethodName := ⟨RX11, "<init>", "()V"⟩
abbrev cX11_feed : ByteArray := prog_1_method_2_code
def yX11_feed : MethodName := ⟨RX11, "feed", "(IIIII)I"⟩
abbrev cX11_end : ByteArray := prog_1_method_3_code
def yX11_end : MethodName := ⟨RX11, "end", "(I)I"⟩
abbrev cX11_reform : ByteArray := prog_1_method_4_code
def yX11_reform : MethodName := ⟨RX11, "reform", "(I)I"⟩
abbrev cX11_fault : ByteArray := prog_1_method_5_code
def yX11_fault : MethodName := ⟨RX11, "fault", "(I)I"⟩
abbrev cX11_about : ByteArray := prog_1_method_6_code
def yX11_about : MethodName := ⟨RX11, "about", "(II)I"⟩
abbrev cX11_stage : ByteArray := prog_1_method_7_code
def yX11_stage : MethodName := ⟨RX11, "stage", "(I)I"⟩
abbrev cX11_turn : ByteArray := prog_1_method_8_code
def yX11_turn : MethodName := ⟨RX11, "turn", "(II)I"⟩
abbrev cX11_form : ByteArray := prog_1_method_9_code
def yX11_form : MethodName := ⟨RX11, "form", "(II)I"⟩
abbrev cX11_partings : ByteArray := prog_1_method_10_code
def yX11_partings : MethodName := ⟨RX11, "partings", "(I)I"⟩
abbrev cX11_parting : ByteArray := prog_1_method_11_code
def yX11_parting : MethodName := ⟨RX11, "parting", "(II)I"⟩
abbrev cX11_learn : ByteArray := prog_1_method_12_code
def yX11_learn : MethodName := ⟨RX11, "learn", "()I"⟩
abbrev cX11_word : ByteArray := prog_1_method_13_code
def yX11_word : MethodName := ⟨RX11, "word", "(II)I"⟩
abbrev cX11_back : ByteArray := prog_1_method_14_code
def yX11_back : MethodName := ⟨RX11, "back", "(I)I"⟩
abbrev cX11_old : ByteArray := prog_1_method_15_code
def yX11_old : MethodName := ⟨RX11, "old", "(I)I"⟩
abbrev cX11_collisions : ByteArray := prog_1_method_16_code
def yX11_collisions : MethodName := ⟨RX11, "collisions", "(I)I"⟩
abbrev cX11_collision : ByteArray := prog_1_method_17_code
def yX11_collision : MethodName := ⟨RX11, "collision", "(I)I"⟩
abbrev cX11_rhymes : ByteArray := prog_1_method_18_code
def yX11_rhymes : MethodName := ⟨RX11, "rhymes", "(I)I"⟩
abbrev cX11_tell : ByteArray := prog_1_method_19_code
def yX11_tell : MethodName := ⟨RX11, "tell", "(II)I"⟩
abbrev cX11_uses : ByteArray := prog_1_method_20_code
def yX11_uses : MethodName := ⟨RX11, "uses", "(II)I"⟩
abbrev cX11_write : ByteArray := prog_1_method_21_code
def yX11_write : MethodName := ⟨RX11, "write", "(II)I"⟩
abbrev cX11_written : ByteArray := prog_1_method_22_code
def yX11_written : MethodName := ⟨RX11, "written", "(I)I"⟩
abbrev cX11_counted : ByteArray := prog_1_method_23_code
def yX11_counted : MethodName := ⟨RX11, "counted", "(I)I"⟩
abbrev cX11_mixed : ByteArray := prog_1_method_24_code
def yX11_mixed : MethodName := ⟨RX11, "mixed", "(I)I"⟩
abbrev cX11_line : ByteArray := prog_1_method_25_code
def yX11_line : MethodName := ⟨RX11, "line", "(I)I"⟩
abbrev cX11_count : ByteArray := prog_1_method_26_code
def yX11_count : MethodName := ⟨RX11, "count", "(I)I"⟩
abbrev cX11_reformAt : ByteArray := prog_1_method_27_code
def yX11_reformAt : MethodName := ⟨RX11, "reformAt", "(I)LSpellTurner$Reform;"⟩
abbrev cX11_isStage : ByteArray := prog_1_method_28_code
def yX11_isStage : MethodName := ⟨RX11, "isStage", "(I)Z"⟩
abbrev cX11_areStages : ByteArray := prog_1_method_29_code
def yX11_areStages : MethodName := ⟨RX11, "areStages", "(II)Z"⟩
abbrev cX11_notePair : ByteArray := prog_1_method_30_code
def yX11_notePair : MethodName := ⟨RX11, "notePair", "(I)V"⟩
abbrev cX11_chargeWord : ByteArray := prog_1_method_31_code
def yX11_chargeWord : MethodName := ⟨RX11, "chargeWord", "()V"⟩
def RX12 : String := "SpellTurnerModel"
def TX12 : u_T := fun k => match k with
  | 0 => ("SpellTurnerModel", "tape", "[B", true)
  | 1 => ("SpellTurnerModel", "taped", "I", false)
  | 2 => ("SpellTurnerModel", "size", "I", false)
  | 3 => ("SpellTurnerModel", "sort", "I", false)
  | 4 => ("SpellTurnerModel", "what", "I", false)
  | 5 => ("SpellTurnerModel", "at", "I", false)
  | 6 => ("SpellTurnerModel", "end", "I", false)
  | 7 => ("SpellTurnerModel", "faultKind", "I", false)
  | 8 => ("SpellTurnerModel", "faultPlace", "I", false)
  | 9 => ("SpellTurnerModel", "reforms", "I", false)
  | 10 => ("SpellTurnerModel", "day", "[I", true)
  | 11 => ("SpellTurnerModel", "laws", "[I", true)
  | 12 => ("SpellTurnerModel", "parts", "[I", true)
  | 13 => ("SpellTurnerModel", "listed", "[I", true)
  | 14 => ("SpellTurnerModel", "lawText", "[B", true)
  | 15 => ("SpellTurnerModel", "lawSize", "[I", true)
  | 16 => ("SpellTurnerModel", "atStart", "[Z", true)
  | 17 => ("SpellTurnerModel", "atEnd", "[Z", true)
  | 18 => ("SpellTurnerModel", "partText", "[B", true)
  | 19 => ("SpellTurnerModel", "partSize", "[I", true)
  | 20 => ("SpellTurnerModel", "listText", "[B", true)
  | 21 => ("SpellTurnerModel", "listSize", "[I", true)
  | 22 => ("SpellTurnerModel", "word", "[B", true)
  | 23 => ("SpellTurnerModel", "letters", "I", false)
  | 24 => ("SpellTurnerModel", "lengths", "[I", true)
  | 25 => ("SpellTurnerModel", "ways", "[I", true)
  | 26 => ("SpellTurnerModel", "wayParts", "[I", true)
  | 27 => ("SpellTurnerModel", "wayMany", "I", false)
  | 28 => ("SpellTurnerModel", "canEnd", "[Z", true)
  | 29 => ("SpellTurnerModel", "part", "[B", true)
  | 30 => ("SpellTurnerModel", "partLetters", "I", false)
  | 31 => ("SpellTurnerModel", "written", "[B", true)
  | 32 => ("SpellTurnerModel", "made", "[B", true)
  | 33 => ("SpellTurnerModel", "madeSize", "[I", true)
  | 34 => ("SpellTurnerModel", "mades", "I", false)
  | 35 => ("SpellTurnerModel", "lawAsked", "I", false)
  | 36 => ("SpellTurnerModel", "isUsed", "Z", false)
  | 37 => ("SpellTurnerModel", "now", "[B", true)
  | 38 => ("SpellTurnerModel", "nowSize", "[I", true)
  | 39 => ("SpellTurnerModel", "nows", "I", false)
  | 40 => ("SpellTurnerModel", "next", "[B", true)
  | 41 => ("SpellTurnerModel", "nextSize", "[I", true)
  | 42 => ("SpellTurnerModel", "told", "[B", true)
  | 43 => ("SpellTurnerModel", "toldSize", "[I", true)
  | 44 => ("SpellTurnerModel", "tolds", "I", false)
  | 45 => ("SpellTurnerModel", "toldWays", "[I", true)
  | 46 => ("SpellTurnerModel", "toldParts", "[I", true)
  | 47 => ("SpellTurnerModel", "toldWayMany", "I", false)
  | 48 => ("SpellTurnerModel", "words", "I", false)
  | 49 => ("SpellTurnerModel", "bookText", "[B", true)
  | 50 => ("SpellTurnerModel", "bookSize", "[I", true)
  | 51 => ("SpellTurnerModel", "isMade", "Z", false)
  | 52 => ("SpellTurnerModel", "formText", "[B", true)
  | 53 => ("SpellTurnerModel", "formSize", "[I", true)
  | 54 => ("SpellTurnerModel", "formMany", "[I", true)
  | 55 => ("SpellTurnerModel", "olds", "[I", true)
  | 56 => ("SpellTurnerModel", "oldMany", "I", false)
  | 57 => ("SpellTurnerModel", "asked", "[B", true)
  | 58 => ("SpellTurnerModel", "pairs", "[I", true)
  | 59 => ("SpellTurnerModel", "pairMany", "I", false)
  | 60 => ("SpellTurnerModel", "text", "[B", true)
  | 61 => ("SpellTurnerModel", "draft", "[B", true)
  | 62 => ("SpellTurnerModel", "texted", "I", false)
  | 63 => ("SpellTurnerModel", "counts", "[I", true)
  | 64 => ("SpellTurnerModel", "newCounts", "[I", true)
  | 65 => ("SpellTurnerModel", "hasText", "Z", false)
  | 66 => ("SpellTurnerModel", "drafted", "I", false)
  | 67 => ("SpellTurnerModel", "cost", "[I", true)
  | 68 => ("SpellTurnerModel", "sum", "[I", true)
  | 69 => ("SpellTurnerModel", "stageOf", "[I", true)
  | _ => ("SpellTurnerModel", "lines", "I", false)
def tyX12 : Nat → FieldType := fun k => match k with
  | 0 => .array .byte
  | 1 => .int
  | 2 => .int
  | 3 => .int
  | 4 => .int
  | 5 => .int
  | 6 => .int
  | 7 => .int
  | 8 => .int
  | 9 => .int
  | 10 => .array .int
  | 11 => .array .int
  | 12 => .array .int
  | 13 => .array .int
  | 14 => .array .byte
  | 15 => .array .int
  | 16 => .array .boolean
  | 17 => .array .boolean
  | 18 => .array .byte
  | 19 => .array .int
  | 20 => .array .byte
  | 21 => .array .int
  | 22 => .array .byte
  | 23 => .int
  | 24 => .array .int
  | 25 => .array .int
  | 26 => .array .int
  | 27 => .int
  | 28 => .array .boolean
  | 29 => .array .byte
  | 30 => .int
  | 31 => .array .byte
  | 32 => .array .byte
  | 33 => .array .int
  | 34 => .int
  | 35 => .int
  | 36 => .boolean
  | 37 => .array .byte
  | 38 => .array .int
  | 39 => .int
  | 40 => .array .byte
  | 41 => .array .int
  | 42 => .array .byte
  | 43 => .array .int
  | 44 => .int
  | 45 => .array .int
  | 46 => .array .int
  | 47 => .int
  | 48 => .int
  | 49 => .array .byte
  | 50 => .array .int
  | 51 => .boolean
  | 52 => .array .byte
  | 53 => .array .int
  | 54 => .array .int
  | 55 => .array .int
  | 56 => .int
  | 57 => .array .byte
  | 58 => .array .int
  | 59 => .int
  | 60 => .array .byte
  | 61 => .array .byte
  | 62 => .int
  | 63 => .array .int
  | 64 => .array .int
  | 65 => .boolean
  | 66 => .int
  | 67 => .array .int
  | 68 => .array .int
  | 69 => .array .int
  | _ => .int
abbrev wsX120 : List Cond := u_ws RX12 TX12 71
theorem nmX12 : ∀ a, a < 71 → ∀ b, b < 71 → a ≠ b → (TX12 a).2.1 ≠ (TX12 b).2.1 := by decide +kernel
theorem tyX12_ok : ∀ k, k < 71 → parseFieldDescriptor (TX12 k).2.2.1 = some (tyX12 k) := by decide +kernel
abbrev cX12_init : ByteArray := prog_14_method_1_code
def yX12_init : MethodName := ⟨RX12, "<init>", "()V"⟩
abbrev cX12_in : ByteArray := prog_14_method_2_code
def yX12_in : MethodName := ⟨RX12, "in", "(III)Z"⟩
abbrev cX12_isSmall : ByteArray := prog_14_method_3_code
def yX12_isSmall : MethodName := ⟨RX12, "isSmall", "(I)Z"⟩
abbrev cX12_feed : ByteArray := prog_14_method_4_code
def yX12_feed : MethodName := ⟨RX12, "feed", "(IIIII)I"⟩
abbrev cX12_end : ByteArray := prog_14_method_5_code
def yX12_end : MethodName := ⟨RX12, "end", "(I)I"⟩
abbrev cX12_see : ByteArray := prog_14_method_6_code
def yX12_see : MethodName := ⟨RX12, "see", "(I)I"⟩
abbrev cX12_keyAt : ByteArray := prog_14_method_7_code
def yX12_keyAt : MethodName := ⟨RX12, "keyAt", "(II)I"⟩
abbrev cX12_scan : ByteArray := prog_14_method_8_code
def yX12_scan : MethodName := ⟨RX12, "scan", "()V"⟩
abbrev cX12_wrong : ByteArray := prog_14_method_9_code
def yX12_wrong : MethodName := ⟨RX12, "wrong", "(I)Z"⟩
abbrev cX12_take : ByteArray := prog_14_method_10_code
def yX12_take : MethodName := ⟨RX12, "take", "([B[IIZ)Z"⟩
abbrev cX12_same : ByteArray := prog_14_method_11_code
def yX12_same : MethodName := ⟨RX12, "same", "([B[III)Z"⟩
abbrev cX12_readListed : ByteArray := prog_14_method_12_code
def yX12_readListed : MethodName := ⟨RX12, "readListed", "(Z)Z"⟩
abbrev cX12_readPart : ByteArray := prog_14_method_13_code
def yX12_readPart : MethodName := ⟨RX12, "readPart", "()Z"⟩
abbrev cX12_readLaw : ByteArray := prog_14_method_14_code
def yX12_readLaw : MethodName := ⟨RX12, "readLaw", "()Z"⟩
abbrev cX12_readItem : ByteArray := prog_14_method_15_code
def yX12_readItem : MethodName := ⟨RX12, "readItem", "()Z"⟩
abbrev cX12_reform : ByteArray := prog_14_method_16_code
def yX12_reform : MethodName := ⟨RX12, "reform", "(I)I"⟩
abbrev cX12_copy : ByteArray := prog_14_method_17_code
def yX12_copy : MethodName := ⟨RX12, "copy", "([B[III)V"⟩
abbrev cX12_fault : ByteArray := prog_14_method_18_code
def yX12_fault : MethodName := ⟨RX12, "fault", "(I)I"⟩
abbrev cX12_about : ByteArray := prog_14_method_19_code
def yX12_about : MethodName := ⟨RX12, "about", "(II)I"⟩
abbrev cX12_stage : ByteArray := prog_14_method_20_code
def yX12_stage : MethodName := ⟨RX12, "stage", "(I)I"⟩
abbrev cX12_isWordPart : ByteArray := prog_14_method_21_code
def yX12_isWordPart : MethodName := ⟨RX12, "isWordPart", "(III)Z"⟩
abbrev cX12_part : ByteArray := prog_14_method_22_code
def yX12_part : MethodName := ⟨RX12, "part", "(III)V"⟩
abbrev cX12_makeWays : ByteArray := prog_14_method_23_code
def yX12_makeWays : MethodName := ⟨RX12, "makeWays", "(I)V"⟩
abbrev cX12_stands : ByteArray := prog_14_method_24_code
def yX12_stands : MethodName := ⟨RX12, "stands", "(I[BII)Z"⟩
abbrev cX12_lawThrough : ByteArray := prog_14_method_25_code
def yX12_lawThrough : MethodName := ⟨RX12, "lawThrough", "(I)V"⟩
abbrev cX12_makeForm : ByteArray := prog_14_method_26_code
def yX12_makeForm : MethodName := ⟨RX12, "makeForm", "(II)V"⟩
abbrev cX12_sameBytes : ByteArray := prog_14_method_27_code
def yX12_sameBytes : MethodName := ⟨RX12, "sameBytes", "([BII[BII)Z"⟩
abbrev cX12_listedAs : ByteArray := prog_14_method_28_code
def yX12_listedAs : MethodName := ⟨RX12, "listedAs", "(I)I"⟩
abbrev cX12_turnBy : ByteArray := prog_14_method_29_code
def yX12_turnBy : MethodName := ⟨RX12, "turnBy", "(I)V"⟩
abbrev cX12_takeWord : ByteArray := prog_14_method_30_code
def yX12_takeWord : MethodName := ⟨RX12, "takeWord", "([BII)V"⟩
abbrev cX12_through : ByteArray := prog_14_method_31_code
def yX12_through : MethodName := ⟨RX12, "through", "(II)V"⟩
abbrev cX12_readWord : ByteArray := prog_14_method_32_code
def yX12_readWord : MethodName := ⟨RX12, "readWord", "()Z"⟩
abbrev cX12_isStage : ByteArray := prog_14_method_33_code
def yX12_isStage : MethodName := ⟨RX12, "isStage", "(I)Z"⟩
abbrev cX12_turn : ByteArray := prog_14_method_34_code
def yX12_turn : MethodName := ⟨RX12, "turn", "(II)I"⟩
abbrev cX12_form : ByteArray := prog_14_method_35_code
def yX12_form : MethodName := ⟨RX12, "form", "(II)I"⟩
abbrev cX12_partings : ByteArray := prog_14_method_36_code
def yX12_partings : MethodName := ⟨RX12, "partings", "(I)I"⟩
abbrev cX12_parting : ByteArray := prog_14_method_37_code
def yX12_parting : MethodName := ⟨RX12, "parting", "(II)I"⟩
abbrev cX12_learn : ByteArray := prog_14_method_38_code
def yX12_learn : MethodName := ⟨RX12, "learn", "()I"⟩
abbrev cX12_word : ByteArray := prog_14_method_39_code
def yX12_word : MethodName := ⟨RX12, "word", "(II)I"⟩
abbrev cX12_make : ByteArray := prog_14_method_40_code
def yX12_make : MethodName := ⟨RX12, "make", "()V"⟩
abbrev cX12_hasForm : ByteArray := prog_14_method_41_code
def yX12_hasForm : MethodName := ⟨RX12, "hasForm", "(II[BII)Z"⟩
abbrev cX12_back : ByteArray := prog_14_method_42_code
def yX12_back : MethodName := ⟨RX12, "back", "(I)I"⟩
abbrev cX12_old : ByteArray := prog_14_method_43_code
def yX12_old : MethodName := ⟨RX12, "old", "(I)I"⟩
abbrev cX12_collide : ByteArray := prog_14_method_44_code
def yX12_collide : MethodName := ⟨RX12, "collide", "(III)Z"⟩
abbrev cX12_collisions : ByteArray := prog_14_method_45_code
def yX12_collisions : MethodName := ⟨RX12, "collisions", "(I)I"⟩
abbrev cX12_collision : ByteArray := prog_14_method_46_code
def yX12_collision : MethodName := ⟨RX12, "collision", "(I)I"⟩
abbrev cX12_rhyme : ByteArray := prog_14_method_47_code
def yX12_rhyme : MethodName := ⟨RX12, "rhyme", "([BII[BII)Z"⟩
abbrev cX12_rhymeAt : ByteArray := prog_14_method_48_code
def yX12_rhymeAt : MethodName := ⟨RX12, "rhymeAt", "(III)Z"⟩
abbrev cX12_rhymes : ByteArray := prog_14_method_49_code
def yX12_rhymes : MethodName := ⟨RX12, "rhymes", "(I)I"⟩
abbrev cX12_tell : ByteArray := prog_14_method_50_code
def yX12_tell : MethodName := ⟨RX12, "tell", "(II)I"⟩
abbrev cX12_uses : ByteArray := prog_14_method_51_code
def yX12_uses : MethodName := ⟨RX12, "uses", "(II)I"⟩
abbrev cX12_isLetter : ByteArray := prog_14_method_52_code
def yX12_isLetter : MethodName := ⟨RX12, "isLetter", "(I)Z"⟩
abbrev cX12_hasNought : ByteArray := prog_14_method_53_code
def yX12_hasNought : MethodName := ⟨RX12, "hasNought", "(I)Z"⟩
abbrev cX12_write1 : ByteArray := prog_14_method_54_code
def yX12_write1 : MethodName := ⟨RX12, "write1", "([BII)Z"⟩
abbrev cX12_isName : ByteArray := prog_14_method_55_code
def yX12_isName : MethodName := ⟨RX12, "isName", "(II)Z"⟩
abbrev cX12_writeWord : ByteArray := prog_14_method_56_code
def yX12_writeWord : MethodName := ⟨RX12, "writeWord", "(IIII)Z"⟩
abbrev cX12_quoted : ByteArray := prog_14_method_57_code
def yX12_quoted : MethodName := ⟨RX12, "quoted", "(II)I"⟩
abbrev cX12_write : ByteArray := prog_14_method_58_code
def yX12_write : MethodName := ⟨RX12, "write", "(II)I"⟩
abbrev cX12_written : ByteArray := prog_14_method_59_code
def yX12_written : MethodName := ⟨RX12, "written", "(I)I"⟩
abbrev cX12_counted : ByteArray := prog_14_method_60_code
def yX12_counted : MethodName := ⟨RX12, "counted", "(I)I"⟩
abbrev cX12_isKnown : ByteArray := prog_14_method_61_code
def yX12_isKnown : MethodName := ⟨RX12, "isKnown", "(III)Z"⟩
abbrev cX12_mixed : ByteArray := prog_14_method_62_code
def yX12_mixed : MethodName := ⟨RX12, "mixed", "(I)I"⟩
abbrev cX12_onward : ByteArray := prog_14_method_63_code
def yX12_onward : MethodName := ⟨RX12, "onward", "(III)I"⟩
abbrev cX12_line : ByteArray := prog_14_method_64_code
def yX12_line : MethodName := ⟨RX12, "line", "(I)I"⟩
abbrev cX12_count : ByteArray := prog_14_method_65_code
def yX12_count : MethodName := ⟨RX12, "count", "(I)I"⟩
def RJx8e188 : String := "java/lang/Cloneable"
def TJx8e188 : u_T := fun k => match k with
  | _ => ("", "", "", false)
def tyJx8e188 : Nat → FieldType := fun k => match k with
  | _ => .int
abbrev wsJx8e1880 : List Cond := u_ws RJx8e188 TJx8e188 0
def RJ9 : String := "java/lang/Math"
def TJ9 : u_T := fun k => match k with
  | _ => ("", "", "", false)
def tyJ9 : Nat → FieldType := fun k => match k with
  | _ => .int
abbrev wsJ90 : List Cond := u_ws RJ9 TJ9 0
abbrev cJ9_max_7cf53 : ByteArray := prog_16_method_65_code
def yJ9_max_7cf53 : MethodName := ⟨RJ9, "max", "(II)I"⟩
abbrev cJ9_min_7cf53 : ByteArray := prog_16_method_69_code
def yJ9_min_7cf53 : MethodName := ⟨RJ9, "min", "(II)I"⟩
def RJ0 : String := "java/lang/String"
def TJ0 : u_T := fun k => match k with
  | _ => ("", "", "", false)
def tyJ0 : Nat → FieldType := fun k => match k with
  | _ => .int
abbrev wsJ00 : List Cond := u_ws RJ0 TJ0 0
abbrev cJ0_length_8abf5 : ByteArray := prog_17_method_54_code
def yJ0_length_8abf5 : MethodName := ⟨RJ0, "length", "()I"⟩
abbrev cJ0_charAt_5068e : ByteArray := prog_17_method_56_code
def yJ0_charAt_5068e : MethodName := ⟨RJ0, "charAt", "(I)C"⟩
abbrev cJ0_coder_7d493 : ByteArray := prog_17_method_152_code
def yJ0_coder_7d493 : MethodName := ⟨RJ0, "coder", "()B"⟩
abbrev cJ0_isLatin1_aae02 : ByteArray := prog_17_method_154_code
def yJ0_isLatin1_aae02 : MethodName := ⟨RJ0, "isLatin1", "()Z"⟩
abbrev cJ0_checkIndex_df160 : ByteArray := prog_17_method_155_code
def yJ0_checkIndex_df160 : MethodName := ⟨RJ0, "checkIndex", "(II)V"⟩
def RJ1 : String := "java/lang/StringLatin1"
def TJ1 : u_T := fun k => match k with
  | _ => ("", "", "", false)
def tyJ1 : Nat → FieldType := fun k => match k with
  | _ => .int
abbrev wsJ10 : List Cond := u_ws RJ1 TJ1 0
abbrev cJ1_charAt_3b067 : ByteArray := prog_18_method_2_code
def yJ1_charAt_3b067 : MethodName := ⟨RJ1, "charAt", "([BI)C"⟩
def RJ2 : String := "java/lang/StringUTF16"
def TJ2 : u_T := fun k => match k with
  | _ => ("", "", "", false)
def tyJ2 : Nat → FieldType := fun k => match k with
  | _ => .int
abbrev wsJ20 : List Cond := u_ws RJ2 TJ2 0
abbrev cJ2_getChar_3b067 : ByteArray := prog_19_method_5_code
def yJ2_getChar_3b067 : MethodName := ⟨RJ2, "getChar", "([BI)C"⟩
abbrev cJ2_length_9d52b : ByteArray := prog_19_method_6_code
def yJ2_length_9d52b : MethodName := ⟨RJ2, "length", "([B)I"⟩
abbrev cJ2_charAt_3b067 : ByteArray := prog_19_method_83_code
def yJ2_charAt_3b067 : MethodName := ⟨RJ2, "charAt", "([BI)C"⟩
abbrev cJ2_checkIndex_2214a : ByteArray := prog_19_method_91_code
def yJ2_checkIndex_2214a : MethodName := ⟨RJ2, "checkIndex", "(I[B)V"⟩
def RJ10 : String := "java/lang/System"
def TJ10 : u_T := fun k => match k with
  | _ => ("", "", "", false)
def tyJ10 : Nat → FieldType := fun k => match k with
  | _ => .int
abbrev wsJ100 : List Cond := u_ws RJ10 TJ10 0
def RJ7 : String := "java/util/Arrays"
def TJ7 : u_T := fun k => match k with
  | _ => ("", "", "", false)
def tyJ7 : Nat → FieldType := fun k => match k with
  | _ => .int
abbrev wsJ70 : List Cond := u_ws RJ7 TJ7 0
abbrev cJ7_rangeCheck_23922 : ByteArray := prog_21_method_30_code
def yJ7_rangeCheck_23922 : MethodName := ⟨RJ7, "rangeCheck", "(III)V"⟩
abbrev cJ7_fill_53178 : ByteArray := prog_21_method_103_code
def yJ7_fill_53178 : MethodName := ⟨RJ7, "fill", "([II)V"⟩
abbrev cJ7_fill_eb02e : ByteArray := prog_21_method_110_code
def yJ7_fill_eb02e : MethodName := ⟨RJ7, "fill", "([BIIB)V"⟩
abbrev cJ7_checkLength_df160 : ByteArray := prog_21_method_131_code
def yJ7_checkLength_df160 : MethodName := ⟨RJ7, "checkLength", "(II)V"⟩
abbrev cJ7_copyOfRange_39247 : ByteArray := prog_21_method_132_code
def yJ7_copyOfRange_39247 : MethodName := ⟨RJ7, "copyOfRange", "([BII)[B"⟩
abbrev cJ7_copyOfRangeByte_39247 : ByteArray := prog_21_method_133_code
def yJ7_copyOfRangeByte_39247 : MethodName := ⟨RJ7, "copyOfRangeByte", "([BII)[B"⟩
def RJ3 : String := "jdk/internal/util/Preconditions"
def TJ3 : u_T := fun k => match k with
  | _ => ("", "", "", false)
def tyJ3 : Nat → FieldType := fun k => match k with
  | _ => .int
abbrev wsJ30 : List Cond := u_ws RJ3 TJ3 0
abbrev cJ3_checkIndex_8e157 : ByteArray := prog_22_method_11_code
def yJ3_checkIndex_8e157 : MethodName := ⟨RJ3, "checkIndex", "(IILjava/util/function/BiFunction;)I"⟩
def RL : String := "SpellTurnerLaw"
abbrev cL_law : ByteArray := code
def yL_law : MethodName := ⟨RL, "law", "([I)Z"⟩
def wsX10_init : List Cond := .code yX10_init cX10_init 3 none :: ([.methodLink RX10 3 objectInit, .instanceMethod objectInit, .code objectInit ⟨#[0xb1]⟩ 1 none, .fieldLink RX10 9 "SpellTurner$WordRow" "count" "I", .fieldLink RX10 15 "SpellTurner$WordRow" "width" "I", .arrayClass .byte, .fieldLink RX10 18 "SpellTurner$WordRow" "letters" "[B", .arrayClass .int, .fieldLink RX10 22 "SpellTurner$WordRow" "lengths" "[I"] ++ wsX100)
def wsX0_init : List Cond := .code yX0_init cX0_init 1 none :: ([.methodLink RX0 3 objectInit, .instanceMethod objectInit, .code objectInit ⟨#[0xb1]⟩ 1 none, .classLink RX0 9 RX10, .instantiable RX10 4, .initialized RX10, .fieldLink RX0 14 "SpellTurner$Book" "words" "LSpellTurner$WordRow;", .fieldLink RX0 20 "SpellTurner$Book" "forms" "[LSpellTurner$WordRow;", .arrayClass .long, .fieldLink RX0 24 "SpellTurner$Book" "lawsUsed" "[J", .arrayClass .int, .fieldLink RX0 28 "SpellTurner$Book" "filled" "[I", .fieldLink RX0 32 "SpellTurner$Book" "spare" "LSpellTurner$WordRow;", .fieldLink RX0 35 "SpellTurner$Book" "nothing" "LSpellTurner$WordRow;", .methodLink RX0 11 yX10_init, .instanceMethod yX10_init, .code yX10_init cX10_init 3 none, .methodLink RX10 3 objectInit, .fieldLink RX10 9 "SpellTurner$WordRow" "count" "I", .fieldLink RX10 15 "SpellTurner$WordRow" "width" "I", .arrayClass .byte, .fieldLink RX10 18 "SpellTurner$WordRow" "letters" "[B", .fieldLink RX10 22 "SpellTurner$WordRow" "lengths" "[I"] ++ wsX100 ++ wsX00)
def wsX10_isFull : List Cond := .code yX10_isFull cX10_isFull 1 (some .boolean) :: ([.fieldLink RX10 9 "SpellTurner$WordRow" "count" "I", .fieldLink RX10 22 "SpellTurner$WordRow" "lengths" "[I"] ++ wsX100)
def wsX10_add : List Cond := .code yX10_add cX10_add 4 none :: ([.fieldLink RX10 15 "SpellTurner$WordRow" "width" "I", .fieldLink RX10 18 "SpellTurner$WordRow" "letters" "[B", .fieldLink RX10 9 "SpellTurner$WordRow" "count" "I", .methodLink RX10 30 arraycopyName, .native arraycopyName, .static arraycopyName, .initialized "java/lang/System", .fieldLink RX10 22 "SpellTurner$WordRow" "lengths" "[I", .methodLink RX10 26 yX10_isFull, .instanceMethod yX10_isFull, .selects RX10 yX10_isFull yX10_isFull, .initialized RX10, .code yX10_isFull cX10_isFull 1 (some .boolean)] ++ wsX100)
def wsX0_formsAt : List Cond := .code yX0_formsAt cX0_formsAt 4 (some (.object "SpellTurner$WordRow")) :: ([.fieldLink RX0 20 "SpellTurner$Book" "forms" "[LSpellTurner$WordRow;", .fieldLink RX0 35 "SpellTurner$Book" "nothing" "LSpellTurner$WordRow;"] ++ wsX00)
def wsX10_same : List Cond := .code yX10_same cX10_same 6 (some .boolean) :: ([])
def wsX10_find : List Cond := .code yX10_find cX10_find 5 (some .int) :: ([.fieldLink RX10 9 "SpellTurner$WordRow" "count" "I", .fieldLink RX10 22 "SpellTurner$WordRow" "lengths" "[I", .fieldLink RX10 18 "SpellTurner$WordRow" "letters" "[B", .fieldLink RX10 15 "SpellTurner$WordRow" "width" "I", .methodLink RX10 44 yX10_same, .static yX10_same, .initialized RX10, .code yX10_same cX10_same 6 (some .boolean)] ++ wsX100)
def wsX5_isKept : List Cond := .code yX5_isKept cX5_isKept 2 (some .boolean) :: ([.fieldLink RX5 39 "SpellTurner$Reform" "kept" "[Z"] ++ wsX50)
def wsX10_addForm : List Cond := .code yX10_addForm cX10_addForm 4 none :: ([.methodLink RX10 36 yX10_find, .instanceMethod yX10_find, .selects RX10 yX10_find yX10_find, .initialized RX10, .code yX10_find cX10_find 5 (some .int), .fieldLink RX10 9 "SpellTurner$WordRow" "count" "I", .fieldLink RX10 22 "SpellTurner$WordRow" "lengths" "[I", .fieldLink RX10 18 "SpellTurner$WordRow" "letters" "[B", .fieldLink RX10 15 "SpellTurner$WordRow" "width" "I", .methodLink RX10 44 yX10_same, .static yX10_same, .code yX10_same cX10_same 6 (some .boolean), .methodLink RX10 40 yX10_add, .instanceMethod yX10_add, .selects RX10 yX10_add yX10_add, .code yX10_add cX10_add 4 none, .methodLink RX10 30 arraycopyName, .native arraycopyName, .static arraycopyName, .initialized "java/lang/System", .methodLink RX10 26 yX10_isFull, .instanceMethod yX10_isFull, .selects RX10 yX10_isFull yX10_isFull, .code yX10_isFull cX10_isFull 1 (some .boolean)] ++ wsX100)
def wsX9_addEntry_r1 : List Cond := [Cond.fieldLink RX9 102 "SpellTurner$Reform" "entries" "LSpellTurner$WordRow;", Cond.fieldLink RX9 125 "SpellTurner$Reform" "becomes" "LSpellTurner$WordRow;", Cond.fieldLink RX9 53 "SpellTurner$WordRow" "count" "I", Cond.fieldLink RX9 56 "SpellTurner$WordRow" "letters" "[B", Cond.fieldLink RX9 59 "SpellTurner$WordRow" "width" "I", Cond.fieldLink RX9 62 "SpellTurner$WordRow" "lengths" "[I", Cond.methodLink RX9 121 yX5_isKept, Cond.instanceMethod yX5_isKept, Cond.selects RX5 yX5_isKept yX5_isKept, Cond.initialized RX5, Cond.code yX5_isKept cX5_isKept 2 (some .boolean), Cond.fieldLink RX5 39 "SpellTurner$Reform" "kept" "[Z", Cond.methodLink RX9 85 yX10_addForm, Cond.instanceMethod yX10_addForm, Cond.selects RX10 yX10_addForm yX10_addForm, Cond.initialized RX10, Cond.code yX10_addForm cX10_addForm 4 none, Cond.methodLink RX10 36 yX10_find, Cond.instanceMethod yX10_find, Cond.selects RX10 yX10_find yX10_find, Cond.code yX10_find cX10_find 5 (some .int), Cond.fieldLink RX10 9 "SpellTurner$WordRow" "count" "I", Cond.fieldLink RX10 22 "SpellTurner$WordRow" "lengths" "[I", Cond.fieldLink RX10 18 "SpellTurner$WordRow" "letters" "[B"]
def wsX9_addEntry_r2 : List Cond := [Cond.fieldLink RX10 15 "SpellTurner$WordRow" "width" "I", Cond.methodLink RX10 44 yX10_same, Cond.static yX10_same, Cond.code yX10_same cX10_same 6 (some .boolean), Cond.methodLink RX10 40 yX10_add, Cond.instanceMethod yX10_add, Cond.selects RX10 yX10_add yX10_add, Cond.code yX10_add cX10_add 4 none, Cond.methodLink RX10 30 arraycopyName, Cond.native arraycopyName, Cond.static arraycopyName, Cond.initialized "java/lang/System", Cond.methodLink RX10 26 yX10_isFull, Cond.instanceMethod yX10_isFull, Cond.selects RX10 yX10_isFull yX10_isFull, Cond.code yX10_isFull cX10_isFull 1 (some .boolean)]
def wsX9_addEntry : List Cond := .code yX9_addEntry cX9_addEntry 5 none :: ((wsX9_addEntry_r1 ++ wsX9_addEntry_r2) ++ wsX50 ++ wsX100)
def wsJ7_rangeCheck_23922 : List Cond := .code yJ7_rangeCheck_23922 cJ7_rangeCheck_23922 3 none :: ([])
def wsJ7_fill_eb02e : List Cond := .code yJ7_fill_eb02e cJ7_fill_eb02e 5 none :: ([.methodLink RJ7 13 yJ7_rangeCheck_23922, .static yJ7_rangeCheck_23922, .initialized RJ7, .code yJ7_rangeCheck_23922 cJ7_rangeCheck_23922 3 none])
def wsX10_standsIn : List Cond := .code yX10_standsIn cX10_standsIn 4 (some .boolean) :: ([.fieldLink RX10 18 "SpellTurner$WordRow" "letters" "[B", .fieldLink RX10 15 "SpellTurner$WordRow" "width" "I", .fieldLink RX10 22 "SpellTurner$WordRow" "lengths" "[I", .methodLink RX10 44 yX10_same, .static yX10_same, .initialized RX10, .code yX10_same cX10_same 6 (some .boolean)] ++ wsX100)
def wsX3_markFitting : List Cond := .code yX3_markFitting cX3_markFitting 7 none :: ([.fieldLink RX3 26 "SpellTurner$Partings" "closes" "[Z", .fieldLink RX3 23 "SpellTurner$Partings" "fitting" "[B", .fieldLink RX3 38 "SpellTurner$Partings" "parts" "LSpellTurner$WordRow;", .fieldLink RX3 42 "SpellTurner$WordRow" "count" "I", .fieldLink RX3 55 "SpellTurner$WordRow" "lengths" "[I", .methodLink RX3 58 yJ7_fill_eb02e, .static yJ7_fill_eb02e, .initialized RJ7, .code yJ7_fill_eb02e cJ7_fill_eb02e 5 none, .methodLink RJ7 13 yJ7_rangeCheck_23922, .static yJ7_rangeCheck_23922, .code yJ7_rangeCheck_23922 cJ7_rangeCheck_23922 3 none, .methodLink RX3 64 yX10_standsIn, .instanceMethod yX10_standsIn, .selects RX10 yX10_standsIn yX10_standsIn, .initialized RX10, .code yX10_standsIn cX10_standsIn 4 (some .boolean), .fieldLink RX10 18 "SpellTurner$WordRow" "letters" "[B", .fieldLink RX10 15 "SpellTurner$WordRow" "width" "I", .fieldLink RX10 22 "SpellTurner$WordRow" "lengths" "[I", .methodLink RX10 44 yX10_same, .static yX10_same, .code yX10_same cX10_same 6 (some .boolean)] ++ wsX30 ++ wsX100)
def wsX3_note : List Cond := .code yX3_note cX3_note 2 none :: ([.fieldLink RX3 30 "SpellTurner$Partings" "path" "[B", .fieldLink RX3 19 "SpellTurner$Partings" "picks" "[B", .fieldLink RX3 9 "SpellTurner$Partings" "count" "I", .methodLink RX3 72 arraycopyName, .native arraycopyName, .static arraycopyName, .initialized "java/lang/System", .fieldLink RX3 15 "SpellTurner$Partings" "sizes" "[I"] ++ wsX30)
def wsX3_walk : List Cond := .code yX3_walk cX3_walk 6 none :: ([.fieldLink RX3 9 "SpellTurner$Partings" "count" "I", .fieldLink RX3 23 "SpellTurner$Partings" "fitting" "[B", .fieldLink RX3 30 "SpellTurner$Partings" "path" "[B", .methodLink RX3 68 yX3_note, .instanceMethod yX3_note, .selects RX3 yX3_note yX3_note, .initialized RX3, .code yX3_note cX3_note 2 none, .fieldLink RX3 19 "SpellTurner$Partings" "picks" "[B", .methodLink RX3 72 arraycopyName, .native arraycopyName, .static arraycopyName, .initialized "java/lang/System", .fieldLink RX3 15 "SpellTurner$Partings" "sizes" "[I", .methodLink RX3 47 yX3_walk, .instanceMethod yX3_walk, .selects RX3 yX3_walk yX3_walk] ++ wsX30)
def wsX3_find_r1 : List Cond := [Cond.fieldLink RX3 9 "SpellTurner$Partings" "count" "I", Cond.fieldLink RX3 38 "SpellTurner$Partings" "parts" "LSpellTurner$WordRow;", Cond.fieldLink RX3 42 "SpellTurner$WordRow" "count" "I", Cond.fieldLink RX3 26 "SpellTurner$Partings" "closes" "[Z", Cond.methodLink RX3 43 yX3_markFitting, Cond.instanceMethod yX3_markFitting, Cond.selects RX3 yX3_markFitting yX3_markFitting, Cond.initialized RX3, Cond.code yX3_markFitting cX3_markFitting 7 none, Cond.fieldLink RX3 23 "SpellTurner$Partings" "fitting" "[B", Cond.fieldLink RX3 55 "SpellTurner$WordRow" "lengths" "[I", Cond.methodLink RX3 58 yJ7_fill_eb02e, Cond.static yJ7_fill_eb02e, Cond.initialized RJ7, Cond.code yJ7_fill_eb02e cJ7_fill_eb02e 5 none, Cond.methodLink RJ7 13 yJ7_rangeCheck_23922, Cond.static yJ7_rangeCheck_23922, Cond.code yJ7_rangeCheck_23922 cJ7_rangeCheck_23922 3 none, Cond.methodLink RX3 64 yX10_standsIn, Cond.instanceMethod yX10_standsIn, Cond.selects RX10 yX10_standsIn yX10_standsIn, Cond.initialized RX10, Cond.code yX10_standsIn cX10_standsIn 4 (some .boolean), Cond.fieldLink RX10 18 "SpellTurner$WordRow" "letters" "[B"]
def wsX3_find_r2 : List Cond := [Cond.fieldLink RX10 15 "SpellTurner$WordRow" "width" "I", Cond.fieldLink RX10 22 "SpellTurner$WordRow" "lengths" "[I", Cond.methodLink RX10 44 yX10_same, Cond.static yX10_same, Cond.code yX10_same cX10_same 6 (some .boolean), Cond.methodLink RX3 47 yX3_walk, Cond.instanceMethod yX3_walk, Cond.selects RX3 yX3_walk yX3_walk, Cond.code yX3_walk cX3_walk 6 none, Cond.fieldLink RX3 30 "SpellTurner$Partings" "path" "[B", Cond.methodLink RX3 68 yX3_note, Cond.instanceMethod yX3_note, Cond.selects RX3 yX3_note yX3_note, Cond.code yX3_note cX3_note 2 none, Cond.fieldLink RX3 19 "SpellTurner$Partings" "picks" "[B", Cond.methodLink RX3 72 arraycopyName, Cond.native arraycopyName, Cond.static arraycopyName, Cond.initialized "java/lang/System", Cond.fieldLink RX3 15 "SpellTurner$Partings" "sizes" "[I"]
def wsX3_find : List Cond := .code yX3_find cX3_find 6 none :: ((wsX3_find_r1 ++ wsX3_find_r2) ++ wsX30 ++ wsX100)
def wsX1_standsAt : List Cond := .code yX1_standsAt cX1_standsAt 7 (some .boolean) :: ([.fieldLink RX1 23 "SpellTurner$Law" "first" "[B", .fieldLink RX1 16 "SpellTurner$Law" "atStart" "Z", .fieldLink RX1 20 "SpellTurner$Law" "atEnd" "Z", .fieldLink RX1 7 "SpellTurner$Law" "ahead" "[B", .fieldLink RX1 13 "SpellTurner$Law" "behind" "[B", .methodLink RX1 29 yX10_same, .static yX10_same, .initialized RX10, .code yX10_same cX10_same 6 (some .boolean)] ++ wsX10)
def wsX9_apply_r1 : List Cond := [Cond.fieldLink RX9 25 "SpellTurner$Turner" "length" "I", Cond.fieldLink RX9 18 "SpellTurner$Turner" "now" "[B", Cond.fieldLink RX9 22 "SpellTurner$Turner" "next" "[B", Cond.fieldLink RX9 160 "SpellTurner$Law" "second" "[B", Cond.methodLink RX9 134 arraycopyName, Cond.native arraycopyName, Cond.static arraycopyName, Cond.initialized "java/lang/System", Cond.fieldLink RX9 163 "SpellTurner$Law" "first" "[B", Cond.methodLink RX9 88 Lib.Math.max.name, Cond.static Lib.Math.max.name, Cond.initialized "java/lang/Math", Cond.code Lib.Math.max.name Lib.Math.max.code 2 (some .int), Cond.methodLink RX9 154 yX1_standsAt, Cond.instanceMethod yX1_standsAt, Cond.selects RX1 yX1_standsAt yX1_standsAt, Cond.initialized RX1, Cond.code yX1_standsAt cX1_standsAt 7 (some .boolean), Cond.fieldLink RX1 23 "SpellTurner$Law" "first" "[B", Cond.fieldLink RX1 16 "SpellTurner$Law" "atStart" "Z", Cond.fieldLink RX1 20 "SpellTurner$Law" "atEnd" "Z", Cond.fieldLink RX1 7 "SpellTurner$Law" "ahead" "[B", Cond.fieldLink RX1 13 "SpellTurner$Law" "behind" "[B", Cond.methodLink RX1 29 yX10_same]
def wsX9_apply_r2 : List Cond := [Cond.static yX10_same, Cond.initialized RX10, Cond.code yX10_same cX10_same 6 (some .boolean)]
def wsX9_apply : List Cond := .code yX9_apply cX9_apply 5 (some .boolean) :: ((wsX9_apply_r1 ++ wsX9_apply_r2) ++ wsX90 ++ wsX10)
def wsX9_runLaws_r1 : List Cond := [Cond.fieldLink RX9 29 "SpellTurner$Turner" "used" "J", Cond.methodLink RX9 140 Lib.Math.min.name, Cond.static Lib.Math.min.name, Cond.initialized "java/lang/Math", Cond.code Lib.Math.min.name Lib.Math.min.code 2 (some .int), Cond.fieldLink RX9 25 "SpellTurner$Turner" "length" "I", Cond.fieldLink RX9 18 "SpellTurner$Turner" "now" "[B", Cond.methodLink RX9 134 arraycopyName, Cond.native arraycopyName, Cond.static arraycopyName, Cond.initialized "java/lang/System", Cond.fieldLink RX9 143 "SpellTurner$Reform" "lawCount" "I", Cond.fieldLink RX9 146 "SpellTurner$Reform" "laws" "[LSpellTurner$Law;", Cond.methodLink RX9 150 yX9_apply, Cond.instanceMethod yX9_apply, Cond.selects RX9 yX9_apply yX9_apply, Cond.initialized RX9, Cond.code yX9_apply cX9_apply 5 (some .boolean), Cond.fieldLink RX9 22 "SpellTurner$Turner" "next" "[B", Cond.fieldLink RX9 160 "SpellTurner$Law" "second" "[B", Cond.fieldLink RX9 163 "SpellTurner$Law" "first" "[B", Cond.methodLink RX9 88 Lib.Math.max.name, Cond.static Lib.Math.max.name, Cond.code Lib.Math.max.name Lib.Math.max.code 2 (some .int)]
def wsX9_runLaws_r2 : List Cond := [Cond.methodLink RX9 154 yX1_standsAt, Cond.instanceMethod yX1_standsAt, Cond.selects RX1 yX1_standsAt yX1_standsAt, Cond.initialized RX1, Cond.code yX1_standsAt cX1_standsAt 7 (some .boolean), Cond.fieldLink RX1 23 "SpellTurner$Law" "first" "[B", Cond.fieldLink RX1 16 "SpellTurner$Law" "atStart" "Z", Cond.fieldLink RX1 20 "SpellTurner$Law" "atEnd" "Z", Cond.fieldLink RX1 7 "SpellTurner$Law" "ahead" "[B", Cond.fieldLink RX1 13 "SpellTurner$Law" "behind" "[B", Cond.methodLink RX1 29 yX10_same, Cond.static yX10_same, Cond.initialized RX10, Cond.code yX10_same cX10_same 6 (some .boolean)]
def wsX9_runLaws : List Cond := .code yX9_runLaws cX9_runLaws 7 (some .boolean) :: ((wsX9_runLaws_r1 ++ wsX9_runLaws_r2) ++ wsX90 ++ wsX50 ++ wsX10)
def wsX3_pick : List Cond := .code yX3_pick cX3_pick 3 (some .int) :: ([.fieldLink RX3 9 "SpellTurner$Partings" "count" "I", .fieldLink RX3 15 "SpellTurner$Partings" "sizes" "[I", .fieldLink RX3 19 "SpellTurner$Partings" "picks" "[B"] ++ wsX30)
def wsX9_turnParting_r1 : List Cond := [Cond.fieldLink RX9 78 "SpellTurner$Reform" "turnedParts" "LSpellTurner$WordRow;", Cond.fieldLink RX9 12 "SpellTurner$Turner" "partings" "LSpellTurner$Partings;", Cond.fieldLink RX9 128 "SpellTurner$Partings" "sizes" "[I", Cond.fieldLink RX9 53 "SpellTurner$WordRow" "count" "I", Cond.fieldLink RX9 74 "SpellTurner$Reform" "partUses" "[J", Cond.fieldLink RX9 70 "SpellTurner$Reform" "partHolds" "[Z", Cond.fieldLink RX9 62 "SpellTurner$WordRow" "lengths" "[I", Cond.fieldLink RX9 56 "SpellTurner$WordRow" "letters" "[B", Cond.fieldLink RX9 59 "SpellTurner$WordRow" "width" "I", Cond.fieldLink RX9 33 "SpellTurner$Turner" "whole" "[B", Cond.methodLink RX9 134 arraycopyName, Cond.native arraycopyName, Cond.static arraycopyName, Cond.initialized "java/lang/System", Cond.methodLink RX9 131 yX3_pick, Cond.instanceMethod yX3_pick, Cond.selects RX3 yX3_pick yX3_pick, Cond.initialized RX3, Cond.code yX3_pick cX3_pick 3 (some .int), Cond.fieldLink RX3 9 "SpellTurner$Partings" "count" "I", Cond.fieldLink RX3 15 "SpellTurner$Partings" "sizes" "[I", Cond.fieldLink RX3 19 "SpellTurner$Partings" "picks" "[B", Cond.methodLink RX9 85 yX10_addForm, Cond.instanceMethod yX10_addForm]
def wsX9_turnParting_r2 : List Cond := [Cond.selects RX10 yX10_addForm yX10_addForm, Cond.initialized RX10, Cond.code yX10_addForm cX10_addForm 4 none, Cond.methodLink RX10 36 yX10_find, Cond.instanceMethod yX10_find, Cond.selects RX10 yX10_find yX10_find, Cond.code yX10_find cX10_find 5 (some .int), Cond.fieldLink RX10 9 "SpellTurner$WordRow" "count" "I", Cond.fieldLink RX10 22 "SpellTurner$WordRow" "lengths" "[I", Cond.fieldLink RX10 18 "SpellTurner$WordRow" "letters" "[B", Cond.fieldLink RX10 15 "SpellTurner$WordRow" "width" "I", Cond.methodLink RX10 44 yX10_same, Cond.static yX10_same, Cond.code yX10_same cX10_same 6 (some .boolean), Cond.methodLink RX10 40 yX10_add, Cond.instanceMethod yX10_add, Cond.selects RX10 yX10_add yX10_add, Cond.code yX10_add cX10_add 4 none, Cond.methodLink RX10 30 arraycopyName, Cond.methodLink RX10 26 yX10_isFull, Cond.instanceMethod yX10_isFull, Cond.selects RX10 yX10_isFull yX10_isFull, Cond.code yX10_isFull cX10_isFull 1 (some .boolean)]
def wsX9_turnParting : List Cond := .code yX9_turnParting cX9_turnParting 10 (some .long) :: ((wsX9_turnParting_r1 ++ wsX9_turnParting_r2) ++ wsX50 ++ wsX90 ++ wsX30 ++ wsX100)
def wsX9_turnWord_r1 : List Cond := [Cond.fieldLink RX9 59 "SpellTurner$WordRow" "width" "I", Cond.fieldLink RX9 62 "SpellTurner$WordRow" "lengths" "[I", Cond.fieldLink RX9 102 "SpellTurner$Reform" "entries" "LSpellTurner$WordRow;", Cond.fieldLink RX9 56 "SpellTurner$WordRow" "letters" "[B", Cond.fieldLink RX9 12 "SpellTurner$Turner" "partings" "LSpellTurner$Partings;", Cond.fieldLink RX9 48 "SpellTurner$Reform" "parts" "LSpellTurner$WordRow;", Cond.fieldLink RX9 116 "SpellTurner$Partings" "count" "I", Cond.fieldLink RX9 18 "SpellTurner$Turner" "now" "[B", Cond.fieldLink RX9 25 "SpellTurner$Turner" "length" "I", Cond.fieldLink RX9 29 "SpellTurner$Turner" "used" "J", Cond.methodLink RX9 105 yX10_find, Cond.instanceMethod yX10_find, Cond.selects RX10 yX10_find yX10_find, Cond.initialized RX10, Cond.code yX10_find cX10_find 5 (some .int), Cond.fieldLink RX10 9 "SpellTurner$WordRow" "count" "I", Cond.fieldLink RX10 22 "SpellTurner$WordRow" "lengths" "[I", Cond.fieldLink RX10 18 "SpellTurner$WordRow" "letters" "[B", Cond.fieldLink RX10 15 "SpellTurner$WordRow" "width" "I", Cond.methodLink RX10 44 yX10_same, Cond.static yX10_same, Cond.code yX10_same cX10_same 6 (some .boolean), Cond.methodLink RX9 109 yX9_addEntry, Cond.instanceMethod yX9_addEntry]
def wsX9_turnWord_r2 : List Cond := [Cond.selects RX9 yX9_addEntry yX9_addEntry, Cond.initialized RX9, Cond.code yX9_addEntry cX9_addEntry 5 none, Cond.fieldLink RX9 125 "SpellTurner$Reform" "becomes" "LSpellTurner$WordRow;", Cond.fieldLink RX9 53 "SpellTurner$WordRow" "count" "I", Cond.methodLink RX9 121 yX5_isKept, Cond.instanceMethod yX5_isKept, Cond.selects RX5 yX5_isKept yX5_isKept, Cond.initialized RX5, Cond.code yX5_isKept cX5_isKept 2 (some .boolean), Cond.fieldLink RX5 39 "SpellTurner$Reform" "kept" "[Z", Cond.methodLink RX9 85 yX10_addForm, Cond.instanceMethod yX10_addForm, Cond.selects RX10 yX10_addForm yX10_addForm, Cond.code yX10_addForm cX10_addForm 4 none, Cond.methodLink RX10 36 yX10_find, Cond.methodLink RX10 40 yX10_add, Cond.instanceMethod yX10_add, Cond.selects RX10 yX10_add yX10_add, Cond.code yX10_add cX10_add 4 none, Cond.methodLink RX10 30 arraycopyName, Cond.native arraycopyName, Cond.static arraycopyName, Cond.initialized "java/lang/System"]
def wsX9_turnWord_r3 : List Cond := [Cond.methodLink RX10 26 yX10_isFull, Cond.instanceMethod yX10_isFull, Cond.selects RX10 yX10_isFull yX10_isFull, Cond.code yX10_isFull cX10_isFull 1 (some .boolean), Cond.methodLink RX9 113 yX3_find, Cond.instanceMethod yX3_find, Cond.selects RX3 yX3_find yX3_find, Cond.initialized RX3, Cond.code yX3_find cX3_find 6 none, Cond.fieldLink RX3 9 "SpellTurner$Partings" "count" "I", Cond.fieldLink RX3 38 "SpellTurner$Partings" "parts" "LSpellTurner$WordRow;", Cond.fieldLink RX3 42 "SpellTurner$WordRow" "count" "I", Cond.fieldLink RX3 26 "SpellTurner$Partings" "closes" "[Z", Cond.methodLink RX3 43 yX3_markFitting, Cond.instanceMethod yX3_markFitting, Cond.selects RX3 yX3_markFitting yX3_markFitting, Cond.code yX3_markFitting cX3_markFitting 7 none, Cond.fieldLink RX3 23 "SpellTurner$Partings" "fitting" "[B", Cond.fieldLink RX3 55 "SpellTurner$WordRow" "lengths" "[I", Cond.methodLink RX3 58 yJ7_fill_eb02e, Cond.static yJ7_fill_eb02e, Cond.initialized RJ7, Cond.code yJ7_fill_eb02e cJ7_fill_eb02e 5 none, Cond.methodLink RJ7 13 yJ7_rangeCheck_23922]
def wsX9_turnWord_r4 : List Cond := [Cond.static yJ7_rangeCheck_23922, Cond.code yJ7_rangeCheck_23922 cJ7_rangeCheck_23922 3 none, Cond.methodLink RX3 64 yX10_standsIn, Cond.instanceMethod yX10_standsIn, Cond.selects RX10 yX10_standsIn yX10_standsIn, Cond.code yX10_standsIn cX10_standsIn 4 (some .boolean), Cond.methodLink RX3 47 yX3_walk, Cond.instanceMethod yX3_walk, Cond.selects RX3 yX3_walk yX3_walk, Cond.code yX3_walk cX3_walk 6 none, Cond.fieldLink RX3 30 "SpellTurner$Partings" "path" "[B", Cond.methodLink RX3 68 yX3_note, Cond.instanceMethod yX3_note, Cond.selects RX3 yX3_note yX3_note, Cond.code yX3_note cX3_note 2 none, Cond.fieldLink RX3 19 "SpellTurner$Partings" "picks" "[B", Cond.methodLink RX3 72 arraycopyName, Cond.fieldLink RX3 15 "SpellTurner$Partings" "sizes" "[I", Cond.methodLink RX9 66 yX9_runLaws, Cond.instanceMethod yX9_runLaws, Cond.selects RX9 yX9_runLaws yX9_runLaws, Cond.code yX9_runLaws cX9_runLaws 7 (some .boolean), Cond.methodLink RX9 140 Lib.Math.min.name, Cond.static Lib.Math.min.name]
def wsX9_turnWord_r5 : List Cond := [Cond.initialized "java/lang/Math", Cond.code Lib.Math.min.name Lib.Math.min.code 2 (some .int), Cond.methodLink RX9 134 arraycopyName, Cond.fieldLink RX9 143 "SpellTurner$Reform" "lawCount" "I", Cond.fieldLink RX9 146 "SpellTurner$Reform" "laws" "[LSpellTurner$Law;", Cond.methodLink RX9 150 yX9_apply, Cond.instanceMethod yX9_apply, Cond.selects RX9 yX9_apply yX9_apply, Cond.code yX9_apply cX9_apply 5 (some .boolean), Cond.fieldLink RX9 22 "SpellTurner$Turner" "next" "[B", Cond.fieldLink RX9 160 "SpellTurner$Law" "second" "[B", Cond.fieldLink RX9 163 "SpellTurner$Law" "first" "[B", Cond.methodLink RX9 88 Lib.Math.max.name, Cond.static Lib.Math.max.name, Cond.code Lib.Math.max.name Lib.Math.max.code 2 (some .int), Cond.methodLink RX9 154 yX1_standsAt, Cond.instanceMethod yX1_standsAt, Cond.selects RX1 yX1_standsAt yX1_standsAt, Cond.initialized RX1, Cond.code yX1_standsAt cX1_standsAt 7 (some .boolean), Cond.fieldLink RX1 23 "SpellTurner$Law" "first" "[B", Cond.fieldLink RX1 16 "SpellTurner$Law" "atStart" "Z", Cond.fieldLink RX1 20 "SpellTurner$Law" "atEnd" "Z", Cond.fieldLink RX1 7 "SpellTurner$Law" "ahead" "[B"]
def wsX9_turnWord_r6 : List Cond := [Cond.fieldLink RX1 13 "SpellTurner$Law" "behind" "[B", Cond.methodLink RX1 29 yX10_same, Cond.methodLink RX9 117 yX9_turnParting, Cond.instanceMethod yX9_turnParting, Cond.selects RX9 yX9_turnParting yX9_turnParting, Cond.code yX9_turnParting cX9_turnParting 10 (some .long), Cond.fieldLink RX9 78 "SpellTurner$Reform" "turnedParts" "LSpellTurner$WordRow;", Cond.fieldLink RX9 128 "SpellTurner$Partings" "sizes" "[I", Cond.fieldLink RX9 74 "SpellTurner$Reform" "partUses" "[J", Cond.fieldLink RX9 70 "SpellTurner$Reform" "partHolds" "[Z", Cond.fieldLink RX9 33 "SpellTurner$Turner" "whole" "[B", Cond.methodLink RX9 131 yX3_pick, Cond.instanceMethod yX3_pick, Cond.selects RX3 yX3_pick yX3_pick, Cond.code yX3_pick cX3_pick 3 (some .int)]
def wsX9_turnWord : List Cond := .code yX9_turnWord cX9_turnWord 11 (some .long) :: ((wsX9_turnWord_r1 ++ (wsX9_turnWord_r2 ++ (wsX9_turnWord_r3 ++ (wsX9_turnWord_r4 ++ (wsX9_turnWord_r5 ++ wsX9_turnWord_r6))))) ++ wsX100 ++ wsX50 ++ wsX90 ++ wsX30 ++ wsX10)
def wsX9_turnForms_r1 : List Cond := [Cond.fieldLink RX9 53 "SpellTurner$WordRow" "count" "I", Cond.methodLink RX9 98 yX9_turnWord, Cond.instanceMethod yX9_turnWord, Cond.selects RX9 yX9_turnWord yX9_turnWord, Cond.initialized RX9, Cond.code yX9_turnWord cX9_turnWord 11 (some .long), Cond.fieldLink RX9 59 "SpellTurner$WordRow" "width" "I", Cond.fieldLink RX9 62 "SpellTurner$WordRow" "lengths" "[I", Cond.fieldLink RX9 102 "SpellTurner$Reform" "entries" "LSpellTurner$WordRow;", Cond.fieldLink RX9 56 "SpellTurner$WordRow" "letters" "[B", Cond.fieldLink RX9 12 "SpellTurner$Turner" "partings" "LSpellTurner$Partings;", Cond.fieldLink RX9 48 "SpellTurner$Reform" "parts" "LSpellTurner$WordRow;", Cond.fieldLink RX9 116 "SpellTurner$Partings" "count" "I", Cond.fieldLink RX9 18 "SpellTurner$Turner" "now" "[B", Cond.fieldLink RX9 25 "SpellTurner$Turner" "length" "I", Cond.fieldLink RX9 29 "SpellTurner$Turner" "used" "J", Cond.methodLink RX9 105 yX10_find, Cond.instanceMethod yX10_find, Cond.selects RX10 yX10_find yX10_find, Cond.initialized RX10, Cond.code yX10_find cX10_find 5 (some .int), Cond.fieldLink RX10 9 "SpellTurner$WordRow" "count" "I", Cond.fieldLink RX10 22 "SpellTurner$WordRow" "lengths" "[I", Cond.fieldLink RX10 18 "SpellTurner$WordRow" "letters" "[B"]
def wsX9_turnForms_r2 : List Cond := [Cond.fieldLink RX10 15 "SpellTurner$WordRow" "width" "I", Cond.methodLink RX10 44 yX10_same, Cond.static yX10_same, Cond.code yX10_same cX10_same 6 (some .boolean), Cond.methodLink RX9 109 yX9_addEntry, Cond.instanceMethod yX9_addEntry, Cond.selects RX9 yX9_addEntry yX9_addEntry, Cond.code yX9_addEntry cX9_addEntry 5 none, Cond.fieldLink RX9 125 "SpellTurner$Reform" "becomes" "LSpellTurner$WordRow;", Cond.methodLink RX9 121 yX5_isKept, Cond.instanceMethod yX5_isKept, Cond.selects RX5 yX5_isKept yX5_isKept, Cond.initialized RX5, Cond.code yX5_isKept cX5_isKept 2 (some .boolean), Cond.fieldLink RX5 39 "SpellTurner$Reform" "kept" "[Z", Cond.methodLink RX9 85 yX10_addForm, Cond.instanceMethod yX10_addForm, Cond.selects RX10 yX10_addForm yX10_addForm, Cond.code yX10_addForm cX10_addForm 4 none, Cond.methodLink RX10 36 yX10_find, Cond.methodLink RX10 40 yX10_add, Cond.instanceMethod yX10_add, Cond.selects RX10 yX10_add yX10_add, Cond.code yX10_add cX10_add 4 none]
def wsX9_turnForms_r3 : List Cond := [Cond.methodLink RX10 30 arraycopyName, Cond.native arraycopyName, Cond.static arraycopyName, Cond.initialized "java/lang/System", Cond.methodLink RX10 26 yX10_isFull, Cond.instanceMethod yX10_isFull, Cond.selects RX10 yX10_isFull yX10_isFull, Cond.code yX10_isFull cX10_isFull 1 (some .boolean), Cond.methodLink RX9 113 yX3_find, Cond.instanceMethod yX3_find, Cond.selects RX3 yX3_find yX3_find, Cond.initialized RX3, Cond.code yX3_find cX3_find 6 none, Cond.fieldLink RX3 9 "SpellTurner$Partings" "count" "I", Cond.fieldLink RX3 38 "SpellTurner$Partings" "parts" "LSpellTurner$WordRow;", Cond.fieldLink RX3 42 "SpellTurner$WordRow" "count" "I", Cond.fieldLink RX3 26 "SpellTurner$Partings" "closes" "[Z", Cond.methodLink RX3 43 yX3_markFitting, Cond.instanceMethod yX3_markFitting, Cond.selects RX3 yX3_markFitting yX3_markFitting, Cond.code yX3_markFitting cX3_markFitting 7 none, Cond.fieldLink RX3 23 "SpellTurner$Partings" "fitting" "[B", Cond.fieldLink RX3 55 "SpellTurner$WordRow" "lengths" "[I", Cond.methodLink RX3 58 yJ7_fill_eb02e]
def wsX9_turnForms_r4 : List Cond := [Cond.static yJ7_fill_eb02e, Cond.initialized RJ7, Cond.code yJ7_fill_eb02e cJ7_fill_eb02e 5 none, Cond.methodLink RJ7 13 yJ7_rangeCheck_23922, Cond.static yJ7_rangeCheck_23922, Cond.code yJ7_rangeCheck_23922 cJ7_rangeCheck_23922 3 none, Cond.methodLink RX3 64 yX10_standsIn, Cond.instanceMethod yX10_standsIn, Cond.selects RX10 yX10_standsIn yX10_standsIn, Cond.code yX10_standsIn cX10_standsIn 4 (some .boolean), Cond.methodLink RX3 47 yX3_walk, Cond.instanceMethod yX3_walk, Cond.selects RX3 yX3_walk yX3_walk, Cond.code yX3_walk cX3_walk 6 none, Cond.fieldLink RX3 30 "SpellTurner$Partings" "path" "[B", Cond.methodLink RX3 68 yX3_note, Cond.instanceMethod yX3_note, Cond.selects RX3 yX3_note yX3_note, Cond.code yX3_note cX3_note 2 none, Cond.fieldLink RX3 19 "SpellTurner$Partings" "picks" "[B", Cond.methodLink RX3 72 arraycopyName, Cond.fieldLink RX3 15 "SpellTurner$Partings" "sizes" "[I", Cond.methodLink RX9 66 yX9_runLaws, Cond.instanceMethod yX9_runLaws]
def wsX9_turnForms_r5 : List Cond := [Cond.selects RX9 yX9_runLaws yX9_runLaws, Cond.code yX9_runLaws cX9_runLaws 7 (some .boolean), Cond.methodLink RX9 140 Lib.Math.min.name, Cond.static Lib.Math.min.name, Cond.initialized "java/lang/Math", Cond.code Lib.Math.min.name Lib.Math.min.code 2 (some .int), Cond.methodLink RX9 134 arraycopyName, Cond.fieldLink RX9 143 "SpellTurner$Reform" "lawCount" "I", Cond.fieldLink RX9 146 "SpellTurner$Reform" "laws" "[LSpellTurner$Law;", Cond.methodLink RX9 150 yX9_apply, Cond.instanceMethod yX9_apply, Cond.selects RX9 yX9_apply yX9_apply, Cond.code yX9_apply cX9_apply 5 (some .boolean), Cond.fieldLink RX9 22 "SpellTurner$Turner" "next" "[B", Cond.fieldLink RX9 160 "SpellTurner$Law" "second" "[B", Cond.fieldLink RX9 163 "SpellTurner$Law" "first" "[B", Cond.methodLink RX9 88 Lib.Math.max.name, Cond.static Lib.Math.max.name, Cond.code Lib.Math.max.name Lib.Math.max.code 2 (some .int), Cond.methodLink RX9 154 yX1_standsAt, Cond.instanceMethod yX1_standsAt, Cond.selects RX1 yX1_standsAt yX1_standsAt, Cond.initialized RX1, Cond.code yX1_standsAt cX1_standsAt 7 (some .boolean)]
def wsX9_turnForms_r6 : List Cond := [Cond.fieldLink RX1 23 "SpellTurner$Law" "first" "[B", Cond.fieldLink RX1 16 "SpellTurner$Law" "atStart" "Z", Cond.fieldLink RX1 20 "SpellTurner$Law" "atEnd" "Z", Cond.fieldLink RX1 7 "SpellTurner$Law" "ahead" "[B", Cond.fieldLink RX1 13 "SpellTurner$Law" "behind" "[B", Cond.methodLink RX1 29 yX10_same, Cond.methodLink RX9 117 yX9_turnParting, Cond.instanceMethod yX9_turnParting, Cond.selects RX9 yX9_turnParting yX9_turnParting, Cond.code yX9_turnParting cX9_turnParting 10 (some .long), Cond.fieldLink RX9 78 "SpellTurner$Reform" "turnedParts" "LSpellTurner$WordRow;", Cond.fieldLink RX9 128 "SpellTurner$Partings" "sizes" "[I", Cond.fieldLink RX9 74 "SpellTurner$Reform" "partUses" "[J", Cond.fieldLink RX9 70 "SpellTurner$Reform" "partHolds" "[Z", Cond.fieldLink RX9 33 "SpellTurner$Turner" "whole" "[B", Cond.methodLink RX9 131 yX3_pick, Cond.instanceMethod yX3_pick, Cond.selects RX3 yX3_pick yX3_pick, Cond.code yX3_pick cX3_pick 3 (some .int)]
def wsX9_turnForms : List Cond := .code yX9_turnForms cX9_turnForms 7 (some .long) :: ((wsX9_turnForms_r1 ++ (wsX9_turnForms_r2 ++ (wsX9_turnForms_r3 ++ (wsX9_turnForms_r4 ++ (wsX9_turnForms_r5 ++ wsX9_turnForms_r6))))) ++ wsX100 ++ wsX50 ++ wsX90 ++ wsX30 ++ wsX10)
def wsX10_copy : List Cond := .code yX10_copy cX10_copy 3 none :: ([.fieldLink RX10 9 "SpellTurner$WordRow" "count" "I", .fieldLink RX10 18 "SpellTurner$WordRow" "letters" "[B", .fieldLink RX10 15 "SpellTurner$WordRow" "width" "I", .fieldLink RX10 22 "SpellTurner$WordRow" "lengths" "[I", .methodLink RX10 40 yX10_add, .instanceMethod yX10_add, .selects RX10 yX10_add yX10_add, .initialized RX10, .code yX10_add cX10_add 4 none, .methodLink RX10 30 arraycopyName, .native arraycopyName, .static arraycopyName, .initialized "java/lang/System", .methodLink RX10 26 yX10_isFull, .instanceMethod yX10_isFull, .selects RX10 yX10_isFull yX10_isFull, .code yX10_isFull cX10_isFull 1 (some .boolean)] ++ wsX100)
def wsX0_fill_r1 : List Cond := [Cond.fieldLink RX0 28 "SpellTurner$Book" "filled" "[I", Cond.fieldLink RX0 14 "SpellTurner$Book" "words" "LSpellTurner$WordRow;", Cond.fieldLink RX0 38 "SpellTurner$WordRow" "count" "I", Cond.fieldLink RX0 32 "SpellTurner$Book" "spare" "LSpellTurner$WordRow;", Cond.fieldLink RX0 42 "SpellTurner$WordRow" "letters" "[B", Cond.fieldLink RX0 46 "SpellTurner$WordRow" "width" "I", Cond.fieldLink RX0 49 "SpellTurner$WordRow" "lengths" "[I", Cond.fieldLink RX0 24 "SpellTurner$Book" "lawsUsed" "[J", Cond.classLink RX0 9 RX10, Cond.instantiable RX10 4, Cond.initialized RX10, Cond.fieldLink RX0 20 "SpellTurner$Book" "forms" "[LSpellTurner$WordRow;", Cond.methodLink RX0 52 yX10_add, Cond.instanceMethod yX10_add, Cond.selects RX10 yX10_add yX10_add, Cond.code yX10_add cX10_add 4 none, Cond.fieldLink RX10 15 "SpellTurner$WordRow" "width" "I", Cond.fieldLink RX10 18 "SpellTurner$WordRow" "letters" "[B", Cond.fieldLink RX10 9 "SpellTurner$WordRow" "count" "I", Cond.methodLink RX10 30 arraycopyName, Cond.native arraycopyName, Cond.static arraycopyName, Cond.initialized "java/lang/System", Cond.fieldLink RX10 22 "SpellTurner$WordRow" "lengths" "[I"]
def wsX0_fill_r2 : List Cond := [Cond.methodLink RX10 26 yX10_isFull, Cond.instanceMethod yX10_isFull, Cond.selects RX10 yX10_isFull yX10_isFull, Cond.code yX10_isFull cX10_isFull 1 (some .boolean), Cond.methodLink RX0 56 yX0_formsAt, Cond.instanceMethod yX0_formsAt, Cond.selects RX0 yX0_formsAt yX0_formsAt, Cond.initialized RX0, Cond.code yX0_formsAt cX0_formsAt 4 (some (.object "SpellTurner$WordRow")), Cond.fieldLink RX0 35 "SpellTurner$Book" "nothing" "LSpellTurner$WordRow;", Cond.methodLink RX0 60 yX9_turnForms, Cond.instanceMethod yX9_turnForms, Cond.selects RX9 yX9_turnForms yX9_turnForms, Cond.initialized RX9, Cond.code yX9_turnForms cX9_turnForms 7 (some .long), Cond.fieldLink RX9 53 "SpellTurner$WordRow" "count" "I", Cond.methodLink RX9 98 yX9_turnWord, Cond.instanceMethod yX9_turnWord, Cond.selects RX9 yX9_turnWord yX9_turnWord, Cond.code yX9_turnWord cX9_turnWord 11 (some .long), Cond.fieldLink RX9 59 "SpellTurner$WordRow" "width" "I", Cond.fieldLink RX9 62 "SpellTurner$WordRow" "lengths" "[I", Cond.fieldLink RX9 102 "SpellTurner$Reform" "entries" "LSpellTurner$WordRow;", Cond.fieldLink RX9 56 "SpellTurner$WordRow" "letters" "[B"]
def wsX0_fill_r3 : List Cond := [Cond.fieldLink RX9 12 "SpellTurner$Turner" "partings" "LSpellTurner$Partings;", Cond.fieldLink RX9 48 "SpellTurner$Reform" "parts" "LSpellTurner$WordRow;", Cond.fieldLink RX9 116 "SpellTurner$Partings" "count" "I", Cond.fieldLink RX9 18 "SpellTurner$Turner" "now" "[B", Cond.fieldLink RX9 25 "SpellTurner$Turner" "length" "I", Cond.fieldLink RX9 29 "SpellTurner$Turner" "used" "J", Cond.methodLink RX9 105 yX10_find, Cond.instanceMethod yX10_find, Cond.selects RX10 yX10_find yX10_find, Cond.code yX10_find cX10_find 5 (some .int), Cond.methodLink RX10 44 yX10_same, Cond.static yX10_same, Cond.code yX10_same cX10_same 6 (some .boolean), Cond.methodLink RX9 109 yX9_addEntry, Cond.instanceMethod yX9_addEntry, Cond.selects RX9 yX9_addEntry yX9_addEntry, Cond.code yX9_addEntry cX9_addEntry 5 none, Cond.fieldLink RX9 125 "SpellTurner$Reform" "becomes" "LSpellTurner$WordRow;", Cond.methodLink RX9 121 yX5_isKept, Cond.instanceMethod yX5_isKept, Cond.selects RX5 yX5_isKept yX5_isKept, Cond.initialized RX5, Cond.code yX5_isKept cX5_isKept 2 (some .boolean), Cond.fieldLink RX5 39 "SpellTurner$Reform" "kept" "[Z"]
def wsX0_fill_r4 : List Cond := [Cond.methodLink RX9 85 yX10_addForm, Cond.instanceMethod yX10_addForm, Cond.selects RX10 yX10_addForm yX10_addForm, Cond.code yX10_addForm cX10_addForm 4 none, Cond.methodLink RX10 36 yX10_find, Cond.methodLink RX10 40 yX10_add, Cond.methodLink RX9 113 yX3_find, Cond.instanceMethod yX3_find, Cond.selects RX3 yX3_find yX3_find, Cond.initialized RX3, Cond.code yX3_find cX3_find 6 none, Cond.fieldLink RX3 9 "SpellTurner$Partings" "count" "I", Cond.fieldLink RX3 38 "SpellTurner$Partings" "parts" "LSpellTurner$WordRow;", Cond.fieldLink RX3 42 "SpellTurner$WordRow" "count" "I", Cond.fieldLink RX3 26 "SpellTurner$Partings" "closes" "[Z", Cond.methodLink RX3 43 yX3_markFitting, Cond.instanceMethod yX3_markFitting, Cond.selects RX3 yX3_markFitting yX3_markFitting, Cond.code yX3_markFitting cX3_markFitting 7 none, Cond.fieldLink RX3 23 "SpellTurner$Partings" "fitting" "[B", Cond.fieldLink RX3 55 "SpellTurner$WordRow" "lengths" "[I", Cond.methodLink RX3 58 yJ7_fill_eb02e, Cond.static yJ7_fill_eb02e, Cond.initialized RJ7]
def wsX0_fill_r5 : List Cond := [Cond.code yJ7_fill_eb02e cJ7_fill_eb02e 5 none, Cond.methodLink RJ7 13 yJ7_rangeCheck_23922, Cond.static yJ7_rangeCheck_23922, Cond.code yJ7_rangeCheck_23922 cJ7_rangeCheck_23922 3 none, Cond.methodLink RX3 64 yX10_standsIn, Cond.instanceMethod yX10_standsIn, Cond.selects RX10 yX10_standsIn yX10_standsIn, Cond.code yX10_standsIn cX10_standsIn 4 (some .boolean), Cond.methodLink RX3 47 yX3_walk, Cond.instanceMethod yX3_walk, Cond.selects RX3 yX3_walk yX3_walk, Cond.code yX3_walk cX3_walk 6 none, Cond.fieldLink RX3 30 "SpellTurner$Partings" "path" "[B", Cond.methodLink RX3 68 yX3_note, Cond.instanceMethod yX3_note, Cond.selects RX3 yX3_note yX3_note, Cond.code yX3_note cX3_note 2 none, Cond.fieldLink RX3 19 "SpellTurner$Partings" "picks" "[B", Cond.methodLink RX3 72 arraycopyName, Cond.fieldLink RX3 15 "SpellTurner$Partings" "sizes" "[I", Cond.methodLink RX9 66 yX9_runLaws, Cond.instanceMethod yX9_runLaws, Cond.selects RX9 yX9_runLaws yX9_runLaws, Cond.code yX9_runLaws cX9_runLaws 7 (some .boolean)]
def wsX0_fill_r6 : List Cond := [Cond.methodLink RX9 140 Lib.Math.min.name, Cond.static Lib.Math.min.name, Cond.initialized "java/lang/Math", Cond.code Lib.Math.min.name Lib.Math.min.code 2 (some .int), Cond.methodLink RX9 134 arraycopyName, Cond.fieldLink RX9 143 "SpellTurner$Reform" "lawCount" "I", Cond.fieldLink RX9 146 "SpellTurner$Reform" "laws" "[LSpellTurner$Law;", Cond.methodLink RX9 150 yX9_apply, Cond.instanceMethod yX9_apply, Cond.selects RX9 yX9_apply yX9_apply, Cond.code yX9_apply cX9_apply 5 (some .boolean), Cond.fieldLink RX9 22 "SpellTurner$Turner" "next" "[B", Cond.fieldLink RX9 160 "SpellTurner$Law" "second" "[B", Cond.fieldLink RX9 163 "SpellTurner$Law" "first" "[B", Cond.methodLink RX9 88 Lib.Math.max.name, Cond.static Lib.Math.max.name, Cond.code Lib.Math.max.name Lib.Math.max.code 2 (some .int), Cond.methodLink RX9 154 yX1_standsAt, Cond.instanceMethod yX1_standsAt, Cond.selects RX1 yX1_standsAt yX1_standsAt, Cond.initialized RX1, Cond.code yX1_standsAt cX1_standsAt 7 (some .boolean), Cond.fieldLink RX1 23 "SpellTurner$Law" "first" "[B", Cond.fieldLink RX1 16 "SpellTurner$Law" "atStart" "Z"]
def wsX0_fill_r7 : List Cond := [Cond.fieldLink RX1 20 "SpellTurner$Law" "atEnd" "Z", Cond.fieldLink RX1 7 "SpellTurner$Law" "ahead" "[B", Cond.fieldLink RX1 13 "SpellTurner$Law" "behind" "[B", Cond.methodLink RX1 29 yX10_same, Cond.methodLink RX9 117 yX9_turnParting, Cond.instanceMethod yX9_turnParting, Cond.selects RX9 yX9_turnParting yX9_turnParting, Cond.code yX9_turnParting cX9_turnParting 10 (some .long), Cond.fieldLink RX9 78 "SpellTurner$Reform" "turnedParts" "LSpellTurner$WordRow;", Cond.fieldLink RX9 128 "SpellTurner$Partings" "sizes" "[I", Cond.fieldLink RX9 74 "SpellTurner$Reform" "partUses" "[J", Cond.fieldLink RX9 70 "SpellTurner$Reform" "partHolds" "[Z", Cond.fieldLink RX9 33 "SpellTurner$Turner" "whole" "[B", Cond.methodLink RX9 131 yX3_pick, Cond.instanceMethod yX3_pick, Cond.selects RX3 yX3_pick yX3_pick, Cond.code yX3_pick cX3_pick 3 (some .int), Cond.methodLink RX0 11 yX10_init, Cond.instanceMethod yX10_init, Cond.code yX10_init cX10_init 3 none, Cond.methodLink RX10 3 objectInit, Cond.instanceMethod objectInit, Cond.code objectInit ⟨#[0xb1]⟩ 1 none, Cond.arrayClass .byte]
def wsX0_fill_r8 : List Cond := [Cond.arrayClass .int, Cond.methodLink RX0 66 yX10_copy, Cond.instanceMethod yX10_copy, Cond.selects RX10 yX10_copy yX10_copy, Cond.code yX10_copy cX10_copy 3 none]
def wsX0_fill : List Cond := .code yX0_fill cX0_fill 7 none :: ((wsX0_fill_r1 ++ (wsX0_fill_r2 ++ (wsX0_fill_r3 ++ (wsX0_fill_r4 ++ (wsX0_fill_r5 ++ (wsX0_fill_r6 ++ (wsX0_fill_r7 ++ wsX0_fill_r8))))))) ++ wsX00 ++ wsX100 ++ wsX50 ++ wsX90 ++ wsX30 ++ wsX10)
def wsX0_hasForm : List Cond := .code yX0_hasForm cX0_hasForm 6 (some .boolean) :: ([.fieldLink RX0 14 "SpellTurner$Book" "words" "LSpellTurner$WordRow;", .fieldLink RX0 38 "SpellTurner$WordRow" "count" "I", .methodLink RX0 56 yX0_formsAt, .instanceMethod yX0_formsAt, .selects RX0 yX0_formsAt yX0_formsAt, .initialized RX0, .code yX0_formsAt cX0_formsAt 4 (some (.object "SpellTurner$WordRow")), .fieldLink RX0 20 "SpellTurner$Book" "forms" "[LSpellTurner$WordRow;", .fieldLink RX0 35 "SpellTurner$Book" "nothing" "LSpellTurner$WordRow;", .methodLink RX0 70 yX10_find, .instanceMethod yX10_find, .selects RX10 yX10_find yX10_find, .initialized RX10, .code yX10_find cX10_find 5 (some .int), .fieldLink RX10 9 "SpellTurner$WordRow" "count" "I", .fieldLink RX10 22 "SpellTurner$WordRow" "lengths" "[I", .fieldLink RX10 18 "SpellTurner$WordRow" "letters" "[B", .fieldLink RX10 15 "SpellTurner$WordRow" "width" "I", .methodLink RX10 44 yX10_same, .static yX10_same, .code yX10_same cX10_same 6 (some .boolean)] ++ wsX00 ++ wsX100)
def wsX0_collide : List Cond := .code yX0_collide cX0_collide 7 (some .boolean) :: ([.fieldLink RX0 38 "SpellTurner$WordRow" "count" "I", .fieldLink RX0 42 "SpellTurner$WordRow" "letters" "[B", .fieldLink RX0 46 "SpellTurner$WordRow" "width" "I", .fieldLink RX0 49 "SpellTurner$WordRow" "lengths" "[I", .methodLink RX0 56 yX0_formsAt, .instanceMethod yX0_formsAt, .selects RX0 yX0_formsAt yX0_formsAt, .initialized RX0, .code yX0_formsAt cX0_formsAt 4 (some (.object "SpellTurner$WordRow")), .fieldLink RX0 20 "SpellTurner$Book" "forms" "[LSpellTurner$WordRow;", .fieldLink RX0 35 "SpellTurner$Book" "nothing" "LSpellTurner$WordRow;", .methodLink RX0 70 yX10_find, .instanceMethod yX10_find, .selects RX10 yX10_find yX10_find, .initialized RX10, .code yX10_find cX10_find 5 (some .int), .fieldLink RX10 9 "SpellTurner$WordRow" "count" "I", .fieldLink RX10 22 "SpellTurner$WordRow" "lengths" "[I", .fieldLink RX10 18 "SpellTurner$WordRow" "letters" "[B", .fieldLink RX10 15 "SpellTurner$WordRow" "width" "I", .methodLink RX10 44 yX10_same, .static yX10_same, .code yX10_same cX10_same 6 (some .boolean)] ++ wsX100 ++ wsX00)
def wsX10_endsAlike : List Cond := .code yX10_endsAlike cX10_endsAlike 6 (some .boolean) :: ([.fieldLink RX10 22 "SpellTurner$WordRow" "lengths" "[I", .fieldLink RX10 18 "SpellTurner$WordRow" "letters" "[B", .fieldLink RX10 15 "SpellTurner$WordRow" "width" "I", .methodLink RX10 44 yX10_same, .static yX10_same, .initialized RX10, .code yX10_same cX10_same 6 (some .boolean)] ++ wsX100)
def wsX0_formsRhyme : List Cond := .code yX0_formsRhyme cX0_formsRhyme 8 (some .boolean) :: ([.fieldLink RX0 38 "SpellTurner$WordRow" "count" "I", .methodLink RX0 56 yX0_formsAt, .instanceMethod yX0_formsAt, .selects RX0 yX0_formsAt yX0_formsAt, .initialized RX0, .code yX0_formsAt cX0_formsAt 4 (some (.object "SpellTurner$WordRow")), .fieldLink RX0 20 "SpellTurner$Book" "forms" "[LSpellTurner$WordRow;", .fieldLink RX0 35 "SpellTurner$Book" "nothing" "LSpellTurner$WordRow;", .methodLink RX0 74 yX10_endsAlike, .instanceMethod yX10_endsAlike, .selects RX10 yX10_endsAlike yX10_endsAlike, .initialized RX10, .code yX10_endsAlike cX10_endsAlike 6 (some .boolean), .fieldLink RX10 22 "SpellTurner$WordRow" "lengths" "[I", .fieldLink RX10 18 "SpellTurner$WordRow" "letters" "[B", .fieldLink RX10 15 "SpellTurner$WordRow" "width" "I", .methodLink RX10 44 yX10_same, .static yX10_same, .code yX10_same cX10_same 6 (some .boolean)] ++ wsX100 ++ wsX00)
def wsX0_isSuch : List Cond := .code yX0_isSuch cX0_isSuch 5 (some .boolean) :: ([.fieldLink RX0 38 "SpellTurner$WordRow" "count" "I", .fieldLink RX0 14 "SpellTurner$Book" "words" "LSpellTurner$WordRow;", .fieldLink RX0 42 "SpellTurner$WordRow" "letters" "[B", .fieldLink RX0 46 "SpellTurner$WordRow" "width" "I", .fieldLink RX0 49 "SpellTurner$WordRow" "lengths" "[I", .methodLink RX0 56 yX0_formsAt, .instanceMethod yX0_formsAt, .selects RX0 yX0_formsAt yX0_formsAt, .initialized RX0, .code yX0_formsAt cX0_formsAt 4 (some (.object "SpellTurner$WordRow")), .fieldLink RX0 20 "SpellTurner$Book" "forms" "[LSpellTurner$WordRow;", .fieldLink RX0 35 "SpellTurner$Book" "nothing" "LSpellTurner$WordRow;", .methodLink RX0 70 yX10_find, .instanceMethod yX10_find, .selects RX10 yX10_find yX10_find, .initialized RX10, .code yX10_find cX10_find 5 (some .int), .fieldLink RX10 9 "SpellTurner$WordRow" "count" "I", .fieldLink RX10 22 "SpellTurner$WordRow" "lengths" "[I", .fieldLink RX10 18 "SpellTurner$WordRow" "letters" "[B", .fieldLink RX10 15 "SpellTurner$WordRow" "width" "I", .methodLink RX10 44 yX10_same, .static yX10_same, .code yX10_same cX10_same 6 (some .boolean)] ++ wsX100 ++ wsX00)
def wsX0_usesLaw : List Cond := .code yX0_usesLaw cX0_usesLaw 4 (some .boolean) :: ([.fieldLink RX0 24 "SpellTurner$Book" "lawsUsed" "[J"] ++ wsX00)
def wsX1_init : List Cond := .code yX1_init cX1_init 3 none :: ([.methodLink RX1 1 objectInit, .instanceMethod objectInit, .code objectInit ⟨#[0xb1]⟩ 1 none, .arrayClass .byte, .fieldLink RX1 7 "SpellTurner$Law" "ahead" "[B", .fieldLink RX1 13 "SpellTurner$Law" "behind" "[B", .fieldLink RX1 16 "SpellTurner$Law" "atStart" "Z", .fieldLink RX1 20 "SpellTurner$Law" "atEnd" "Z", .fieldLink RX1 23 "SpellTurner$Law" "first" "[B", .fieldLink RX1 26 "SpellTurner$Law" "second" "[B"] ++ wsX10)
def wsX2_init : List Cond := .code yX2_init cX2_init 1 none :: ([.methodLink RX2 3 objectInit, .instanceMethod objectInit, .code objectInit ⟨#[0xb1]⟩ 1 none, .arrayClass .int, .fieldLink RX2 9 "SpellTurner$Mixture" "costs" "[I", .fieldLink RX2 15 "SpellTurner$Mixture" "least" "[I", .fieldLink RX2 18 "SpellTurner$Mixture" "told" "[I", .fieldLink RX2 21 "SpellTurner$Mixture" "toldLines" "I", .fieldLink RX2 25 "SpellTurner$Mixture" "lines" "I", .fieldLink RX2 28 "SpellTurner$Mixture" "stages" "I"] ++ wsX20)
def wsJ7_fill_53178 : List Cond := .code yJ7_fill_53178 cJ7_fill_53178 4 none :: ([])
def wsX2_begin : List Cond := .code yX2_begin cX2_begin 3 none :: ([.methodLink RX2 31 Lib.Math.min.name, .static Lib.Math.min.name, .initialized "java/lang/Math", .code Lib.Math.min.name Lib.Math.min.code 2 (some .int), .fieldLink RX2 25 "SpellTurner$Mixture" "lines" "I", .fieldLink RX2 28 "SpellTurner$Mixture" "stages" "I", .fieldLink RX2 9 "SpellTurner$Mixture" "costs" "[I", .methodLink RX2 37 yJ7_fill_53178, .static yJ7_fill_53178, .initialized RJ7, .code yJ7_fill_53178 cJ7_fill_53178 4 none] ++ wsX20)
def wsX2_charge : List Cond := .code yX2_charge cX2_charge 3 none :: ([.fieldLink RX2 25 "SpellTurner$Mixture" "lines" "I", .fieldLink RX2 28 "SpellTurner$Mixture" "stages" "I", .fieldLink RX2 9 "SpellTurner$Mixture" "costs" "[I"] ++ wsX20)
def wsX2_cost : List Cond := .code yX2_cost cX2_cost 6 (some .int) :: ([.fieldLink RX2 15 "SpellTurner$Mixture" "least" "[I"] ++ wsX20)
def wsX2_cheapest : List Cond := .code yX2_cheapest cX2_cheapest 6 (some .int) :: ([.fieldLink RX2 28 "SpellTurner$Mixture" "stages" "I", .methodLink RX2 47 yX2_cost, .instanceMethod yX2_cost, .selects RX2 yX2_cost yX2_cost, .initialized RX2, .code yX2_cost cX2_cost 6 (some .int), .fieldLink RX2 15 "SpellTurner$Mixture" "least" "[I"] ++ wsX20)
def wsX2_settle : List Cond := .code yX2_settle cX2_settle 5 (some .int) :: ([.fieldLink RX2 25 "SpellTurner$Mixture" "lines" "I", .fieldLink RX2 28 "SpellTurner$Mixture" "stages" "I", .fieldLink RX2 15 "SpellTurner$Mixture" "least" "[I", .fieldLink RX2 9 "SpellTurner$Mixture" "costs" "[I", .fieldLink RX2 18 "SpellTurner$Mixture" "told" "[I", .fieldLink RX2 21 "SpellTurner$Mixture" "toldLines" "I", .methodLink RX2 43 yX2_cheapest, .instanceMethod yX2_cheapest, .selects RX2 yX2_cheapest yX2_cheapest, .initialized RX2, .code yX2_cheapest cX2_cheapest 6 (some .int), .methodLink RX2 47 yX2_cost, .instanceMethod yX2_cost, .selects RX2 yX2_cost yX2_cost, .code yX2_cost cX2_cost 6 (some .int)] ++ wsX20)
def wsX2_stageOf : List Cond := .code yX2_stageOf cX2_stageOf 2 (some .int) :: ([.fieldLink RX2 21 "SpellTurner$Mixture" "toldLines" "I", .fieldLink RX2 18 "SpellTurner$Mixture" "told" "[I"] ++ wsX20)
def wsX3_init : List Cond := .code yX3_init cX3_init 1 none :: ([.methodLink RX3 3 objectInit, .instanceMethod objectInit, .code objectInit ⟨#[0xb1]⟩ 1 none, .fieldLink RX3 9 "SpellTurner$Partings" "count" "I", .arrayClass .int, .fieldLink RX3 15 "SpellTurner$Partings" "sizes" "[I", .arrayClass .byte, .fieldLink RX3 19 "SpellTurner$Partings" "picks" "[B", .fieldLink RX3 23 "SpellTurner$Partings" "fitting" "[B", .arrayClass .boolean, .fieldLink RX3 26 "SpellTurner$Partings" "closes" "[Z", .fieldLink RX3 30 "SpellTurner$Partings" "path" "[B", .classLink RX3 33 RX10, .instantiable RX10 4, .initialized RX10, .fieldLink RX3 38 "SpellTurner$Partings" "parts" "LSpellTurner$WordRow;", .methodLink RX3 35 yX10_init, .instanceMethod yX10_init, .code yX10_init cX10_init 3 none, .methodLink RX10 3 objectInit, .fieldLink RX10 9 "SpellTurner$WordRow" "count" "I", .fieldLink RX10 15 "SpellTurner$WordRow" "width" "I", .fieldLink RX10 18 "SpellTurner$WordRow" "letters" "[B", .fieldLink RX10 22 "SpellTurner$WordRow" "lengths" "[I"] ++ wsX30 ++ wsX100)
def wsX3_lengthOf : List Cond := .code yX3_lengthOf cX3_lengthOf 4 (some .int) :: ([.fieldLink RX3 38 "SpellTurner$Partings" "parts" "LSpellTurner$WordRow;", .fieldLink RX3 42 "SpellTurner$WordRow" "count" "I", .fieldLink RX3 55 "SpellTurner$WordRow" "lengths" "[I", .methodLink RX3 51 yX3_pick, .instanceMethod yX3_pick, .selects RX3 yX3_pick yX3_pick, .initialized RX3, .code yX3_pick cX3_pick 3 (some .int), .fieldLink RX3 9 "SpellTurner$Partings" "count" "I", .fieldLink RX3 15 "SpellTurner$Partings" "sizes" "[I", .fieldLink RX3 19 "SpellTurner$Partings" "picks" "[B"] ++ wsX30 ++ wsX100)
def wsX4_init : List Cond := .code yX4_init cX4_init 1 none :: ([.methodLink RX4 3 objectInit, .instanceMethod objectInit, .code objectInit ⟨#[0xb1]⟩ 1 none, .fieldLink RX4 9 "SpellTurner$Reader" "faultKind" "I", .fieldLink RX4 15 "SpellTurner$Reader" "faultPlace" "I", .arrayClass .byte, .fieldLink RX4 18 "SpellTurner$Reader" "text" "[B", .fieldLink RX4 22 "SpellTurner$Reader" "size" "I", .fieldLink RX4 25 "SpellTurner$Reader" "at" "I", .fieldLink RX4 28 "SpellTurner$Reader" "token" "I", .fieldLink RX4 31 "SpellTurner$Reader" "place" "I", .fieldLink RX4 34 "SpellTurner$Reader" "start" "I", .fieldLink RX4 37 "SpellTurner$Reader" "length" "I"] ++ wsX40)
def wsX10_isSmall : List Cond := .code yX10_isSmall cX10_isSmall 1 (some .boolean) :: ([])
def wsX4_scanRun : List Cond := .code yX4_scanRun cX4_scanRun 2 none :: ([.fieldLink RX4 25 "SpellTurner$Reader" "at" "I", .fieldLink RX4 34 "SpellTurner$Reader" "start" "I", .fieldLink RX4 22 "SpellTurner$Reader" "size" "I", .fieldLink RX4 37 "SpellTurner$Reader" "length" "I", .fieldLink RX4 18 "SpellTurner$Reader" "text" "[B", .methodLink RX4 190 yX10_isSmall, .static yX10_isSmall, .initialized RX10, .code yX10_isSmall cX10_isSmall 1 (some .boolean)] ++ wsX40)
def wsX4_nextToken : List Cond := .code yX4_nextToken cX4_nextToken 1 none :: ([.fieldLink RX4 25 "SpellTurner$Reader" "at" "I", .fieldLink RX4 22 "SpellTurner$Reader" "size" "I", .fieldLink RX4 18 "SpellTurner$Reader" "text" "[B", .fieldLink RX4 31 "SpellTurner$Reader" "place" "I", .fieldLink RX4 37 "SpellTurner$Reader" "length" "I", .fieldLink RX4 28 "SpellTurner$Reader" "token" "I", .methodLink RX4 186 yX4_scanRun, .instanceMethod yX4_scanRun, .selects RX4 yX4_scanRun yX4_scanRun, .initialized RX4, .code yX4_scanRun cX4_scanRun 2 none, .fieldLink RX4 34 "SpellTurner$Reader" "start" "I", .methodLink RX4 190 yX10_isSmall, .static yX10_isSmall, .initialized RX10, .code yX10_isSmall cX10_isSmall 1 (some .boolean)] ++ wsX40)
def wsJ0_coder_7d493 : List Cond := .code yJ0_coder_7d493 cJ0_coder_7d493 1 (some .byte) :: ([.fieldLink RJ0 38 "java/lang/String" "COMPACT_STRINGS" "Z", .fieldLink RJ0 15 "java/lang/String" "coder" "B"])
def wsJ0_length_8abf5 : List Cond := .code yJ0_length_8abf5 cJ0_length_8abf5 1 (some .int) :: ([.fieldLink RJ0 9 "java/lang/String" "value" "[B", .methodLink RJ0 335 yJ0_coder_7d493, .instanceMethod yJ0_coder_7d493, .selects RJ0 yJ0_coder_7d493 yJ0_coder_7d493, .initialized RJ0, .code yJ0_coder_7d493 cJ0_coder_7d493 1 (some .byte), .fieldLink RJ0 38 "java/lang/String" "COMPACT_STRINGS" "Z", .fieldLink RJ0 15 "java/lang/String" "coder" "B"])
def wsJ0_isLatin1_aae02 : List Cond := .code yJ0_isLatin1_aae02 cJ0_isLatin1_aae02 1 (some .boolean) :: ([.fieldLink RJ0 38 "java/lang/String" "COMPACT_STRINGS" "Z", .fieldLink RJ0 15 "java/lang/String" "coder" "B"])
def wsJ3_checkIndex_8e157 : List Cond := .code yJ3_checkIndex_8e157 cJ3_checkIndex_8e157 3 (some .int) :: ([])
def wsJ0_checkIndex_df160 : List Cond := .code yJ0_checkIndex_df160 cJ0_checkIndex_df160 2 none :: ([.fieldLink RJ0 1053 "jdk/internal/util/Preconditions" "SIOOBE_FORMATTER" "Ljava/util/function/BiFunction;", .methodLink RJ0 1059 yJ3_checkIndex_8e157, .static yJ3_checkIndex_8e157, .initialized RJ3, .code yJ3_checkIndex_8e157 cJ3_checkIndex_8e157 3 (some .int)])
def wsJ1_charAt_3b067 : List Cond := .code yJ1_charAt_3b067 cJ1_charAt_3b067 2 (some .char) :: ([.methodLink RJ1 9 yJ0_checkIndex_df160, .static yJ0_checkIndex_df160, .initialized RJ0, .code yJ0_checkIndex_df160 cJ0_checkIndex_df160 2 none, .fieldLink RJ0 1053 "jdk/internal/util/Preconditions" "SIOOBE_FORMATTER" "Ljava/util/function/BiFunction;", .methodLink RJ0 1059 yJ3_checkIndex_8e157, .static yJ3_checkIndex_8e157, .initialized RJ3, .code yJ3_checkIndex_8e157 cJ3_checkIndex_8e157 3 (some .int)])
def wsJ2_length_9d52b : List Cond := .code yJ2_length_9d52b cJ2_length_9d52b 1 (some .int) :: ([])
def wsJ2_checkIndex_2214a : List Cond := .code yJ2_checkIndex_2214a cJ2_checkIndex_2214a 2 none :: ([.methodLink RJ2 48 yJ2_length_9d52b, .static yJ2_length_9d52b, .initialized RJ2, .code yJ2_length_9d52b cJ2_length_9d52b 1 (some .int), .methodLink RJ2 414 yJ0_checkIndex_df160, .static yJ0_checkIndex_df160, .initialized RJ0, .code yJ0_checkIndex_df160 cJ0_checkIndex_df160 2 none, .fieldLink RJ0 1053 "jdk/internal/util/Preconditions" "SIOOBE_FORMATTER" "Ljava/util/function/BiFunction;", .methodLink RJ0 1059 yJ3_checkIndex_8e157, .static yJ3_checkIndex_8e157, .initialized RJ3, .code yJ3_checkIndex_8e157 cJ3_checkIndex_8e157 3 (some .int)])
def wsJ2_getChar_3b067 : List Cond := .code yJ2_getChar_3b067 cJ2_getChar_3b067 2 (some .char) :: ([.fieldLink RJ2 44 "java/lang/StringUTF16" "$assertionsDisabled" "Z", .fieldLink RJ2 59 "java/lang/StringUTF16" "HI_BYTE_SHIFT" "I", .fieldLink RJ2 63 "java/lang/StringUTF16" "LO_BYTE_SHIFT" "I", .methodLink RJ2 48 yJ2_length_9d52b, .static yJ2_length_9d52b, .initialized RJ2, .code yJ2_length_9d52b cJ2_length_9d52b 1 (some .int)])
def wsJ2_charAt_3b067 : List Cond := .code yJ2_charAt_3b067 cJ2_charAt_3b067 2 (some .char) :: ([.methodLink RJ2 67 yJ2_checkIndex_2214a, .static yJ2_checkIndex_2214a, .initialized RJ2, .code yJ2_checkIndex_2214a cJ2_checkIndex_2214a 2 none, .methodLink RJ2 48 yJ2_length_9d52b, .static yJ2_length_9d52b, .code yJ2_length_9d52b cJ2_length_9d52b 1 (some .int), .methodLink RJ2 414 yJ0_checkIndex_df160, .static yJ0_checkIndex_df160, .initialized RJ0, .code yJ0_checkIndex_df160 cJ0_checkIndex_df160 2 none, .fieldLink RJ0 1053 "jdk/internal/util/Preconditions" "SIOOBE_FORMATTER" "Ljava/util/function/BiFunction;", .methodLink RJ0 1059 yJ3_checkIndex_8e157, .static yJ3_checkIndex_8e157, .initialized RJ3, .code yJ3_checkIndex_8e157 cJ3_checkIndex_8e157 3 (some .int), .methodLink RJ2 71 yJ2_getChar_3b067, .static yJ2_getChar_3b067, .code yJ2_getChar_3b067 cJ2_getChar_3b067 2 (some .char), .fieldLink RJ2 44 "java/lang/StringUTF16" "$assertionsDisabled" "Z", .fieldLink RJ2 59 "java/lang/StringUTF16" "HI_BYTE_SHIFT" "I", .fieldLink RJ2 63 "java/lang/StringUTF16" "LO_BYTE_SHIFT" "I"])
def wsJ0_charAt_5068e_r1 : List Cond := [Cond.fieldLink RJ0 9 "java/lang/String" "value" "[B", Cond.methodLink RJ0 492 yJ0_isLatin1_aae02, Cond.instanceMethod yJ0_isLatin1_aae02, Cond.selects RJ0 yJ0_isLatin1_aae02 yJ0_isLatin1_aae02, Cond.initialized RJ0, Cond.code yJ0_isLatin1_aae02 cJ0_isLatin1_aae02 1 (some .boolean), Cond.fieldLink RJ0 38 "java/lang/String" "COMPACT_STRINGS" "Z", Cond.fieldLink RJ0 15 "java/lang/String" "coder" "B", Cond.methodLink RJ0 495 yJ1_charAt_3b067, Cond.static yJ1_charAt_3b067, Cond.initialized RJ1, Cond.code yJ1_charAt_3b067 cJ1_charAt_3b067 2 (some .char), Cond.methodLink RJ1 9 yJ0_checkIndex_df160, Cond.static yJ0_checkIndex_df160, Cond.code yJ0_checkIndex_df160 cJ0_checkIndex_df160 2 none, Cond.fieldLink RJ0 1053 "jdk/internal/util/Preconditions" "SIOOBE_FORMATTER" "Ljava/util/function/BiFunction;", Cond.methodLink RJ0 1059 yJ3_checkIndex_8e157, Cond.static yJ3_checkIndex_8e157, Cond.initialized RJ3, Cond.code yJ3_checkIndex_8e157 cJ3_checkIndex_8e157 3 (some .int), Cond.methodLink RJ0 498 yJ2_charAt_3b067, Cond.static yJ2_charAt_3b067, Cond.initialized RJ2, Cond.code yJ2_charAt_3b067 cJ2_charAt_3b067 2 (some .char)]
def wsJ0_charAt_5068e_r2 : List Cond := [Cond.methodLink RJ2 67 yJ2_checkIndex_2214a, Cond.static yJ2_checkIndex_2214a, Cond.code yJ2_checkIndex_2214a cJ2_checkIndex_2214a 2 none, Cond.methodLink RJ2 48 yJ2_length_9d52b, Cond.static yJ2_length_9d52b, Cond.code yJ2_length_9d52b cJ2_length_9d52b 1 (some .int), Cond.methodLink RJ2 414 yJ0_checkIndex_df160, Cond.methodLink RJ2 71 yJ2_getChar_3b067, Cond.static yJ2_getChar_3b067, Cond.code yJ2_getChar_3b067 cJ2_getChar_3b067 2 (some .char), Cond.fieldLink RJ2 44 "java/lang/StringUTF16" "$assertionsDisabled" "Z", Cond.fieldLink RJ2 59 "java/lang/StringUTF16" "HI_BYTE_SHIFT" "I", Cond.fieldLink RJ2 63 "java/lang/StringUTF16" "LO_BYTE_SHIFT" "I"]
def wsJ0_charAt_5068e : List Cond := .code yJ0_charAt_5068e cJ0_charAt_5068e 2 (some .char) :: ((wsJ0_charAt_5068e_r1 ++ wsJ0_charAt_5068e_r2))
def wsX4_wordIs_r1 : List Cond := [Cond.fieldLink RX4 28 "SpellTurner$Reader" "token" "I", Cond.fieldLink RX4 37 "SpellTurner$Reader" "length" "I", Cond.fieldLink RX4 18 "SpellTurner$Reader" "text" "[B", Cond.fieldLink RX4 34 "SpellTurner$Reader" "start" "I", Cond.methodLink RX4 177 yJ0_length_8abf5, Cond.instanceMethod yJ0_length_8abf5, Cond.selects RJ0 yJ0_length_8abf5 yJ0_length_8abf5, Cond.initialized RJ0, Cond.code yJ0_length_8abf5 cJ0_length_8abf5 1 (some .int), Cond.fieldLink RJ0 9 "java/lang/String" "value" "[B", Cond.methodLink RJ0 335 yJ0_coder_7d493, Cond.instanceMethod yJ0_coder_7d493, Cond.selects RJ0 yJ0_coder_7d493 yJ0_coder_7d493, Cond.code yJ0_coder_7d493 cJ0_coder_7d493 1 (some .byte), Cond.fieldLink RJ0 38 "java/lang/String" "COMPACT_STRINGS" "Z", Cond.fieldLink RJ0 15 "java/lang/String" "coder" "B", Cond.methodLink RX4 182 yJ0_charAt_5068e, Cond.instanceMethod yJ0_charAt_5068e, Cond.selects RJ0 yJ0_charAt_5068e yJ0_charAt_5068e, Cond.code yJ0_charAt_5068e cJ0_charAt_5068e 2 (some .char), Cond.methodLink RJ0 492 yJ0_isLatin1_aae02, Cond.instanceMethod yJ0_isLatin1_aae02, Cond.selects RJ0 yJ0_isLatin1_aae02 yJ0_isLatin1_aae02, Cond.code yJ0_isLatin1_aae02 cJ0_isLatin1_aae02 1 (some .boolean)]
def wsX4_wordIs_r2 : List Cond := [Cond.methodLink RJ0 495 yJ1_charAt_3b067, Cond.static yJ1_charAt_3b067, Cond.initialized RJ1, Cond.code yJ1_charAt_3b067 cJ1_charAt_3b067 2 (some .char), Cond.methodLink RJ1 9 yJ0_checkIndex_df160, Cond.static yJ0_checkIndex_df160, Cond.code yJ0_checkIndex_df160 cJ0_checkIndex_df160 2 none, Cond.fieldLink RJ0 1053 "jdk/internal/util/Preconditions" "SIOOBE_FORMATTER" "Ljava/util/function/BiFunction;", Cond.methodLink RJ0 1059 yJ3_checkIndex_8e157, Cond.static yJ3_checkIndex_8e157, Cond.initialized RJ3, Cond.code yJ3_checkIndex_8e157 cJ3_checkIndex_8e157 3 (some .int), Cond.methodLink RJ0 498 yJ2_charAt_3b067, Cond.static yJ2_charAt_3b067, Cond.initialized RJ2, Cond.code yJ2_charAt_3b067 cJ2_charAt_3b067 2 (some .char), Cond.methodLink RJ2 67 yJ2_checkIndex_2214a, Cond.static yJ2_checkIndex_2214a, Cond.code yJ2_checkIndex_2214a cJ2_checkIndex_2214a 2 none, Cond.methodLink RJ2 48 yJ2_length_9d52b, Cond.static yJ2_length_9d52b, Cond.code yJ2_length_9d52b cJ2_length_9d52b 1 (some .int), Cond.methodLink RJ2 414 yJ0_checkIndex_df160, Cond.methodLink RJ2 71 yJ2_getChar_3b067]
def wsX4_wordIs_r3 : List Cond := [Cond.static yJ2_getChar_3b067, Cond.code yJ2_getChar_3b067 cJ2_getChar_3b067 2 (some .char), Cond.fieldLink RJ2 44 "java/lang/StringUTF16" "$assertionsDisabled" "Z", Cond.fieldLink RJ2 59 "java/lang/StringUTF16" "HI_BYTE_SHIFT" "I", Cond.fieldLink RJ2 63 "java/lang/StringUTF16" "LO_BYTE_SHIFT" "I"]
def wsX4_wordIs : List Cond := .code yX4_wordIs cX4_wordIs 3 (some .boolean) :: ((wsX4_wordIs_r1 ++ (wsX4_wordIs_r2 ++ wsX4_wordIs_r3)) ++ wsX40)
def wsX4_blame : List Cond := .code yX4_blame cX4_blame 2 (some .boolean) :: ([.fieldLink RX4 9 "SpellTurner$Reader" "faultKind" "I", .fieldLink RX4 31 "SpellTurner$Reader" "place" "I", .fieldLink RX4 15 "SpellTurner$Reader" "faultPlace" "I"] ++ wsX40)
def wsX4_hasRoom : List Cond := .code yX4_hasRoom cX4_hasRoom 2 (some .boolean) :: ([.methodLink RX4 74 yX4_blame, .instanceMethod yX4_blame, .selects RX4 yX4_blame yX4_blame, .initialized RX4, .code yX4_blame cX4_blame 2 (some .boolean), .fieldLink RX4 9 "SpellTurner$Reader" "faultKind" "I", .fieldLink RX4 31 "SpellTurner$Reader" "place" "I", .fieldLink RX4 15 "SpellTurner$Reader" "faultPlace" "I"] ++ wsX40)
def wsX4_takeLetters_r1 : List Cond := [Cond.fieldLink RX4 28 "SpellTurner$Reader" "token" "I", Cond.fieldLink RX4 37 "SpellTurner$Reader" "length" "I", Cond.methodLink RX4 46 yX4_nextToken, Cond.instanceMethod yX4_nextToken, Cond.selects RX4 yX4_nextToken yX4_nextToken, Cond.initialized RX4, Cond.code yX4_nextToken cX4_nextToken 1 none, Cond.fieldLink RX4 25 "SpellTurner$Reader" "at" "I", Cond.fieldLink RX4 22 "SpellTurner$Reader" "size" "I", Cond.fieldLink RX4 18 "SpellTurner$Reader" "text" "[B", Cond.fieldLink RX4 31 "SpellTurner$Reader" "place" "I", Cond.methodLink RX4 186 yX4_scanRun, Cond.instanceMethod yX4_scanRun, Cond.selects RX4 yX4_scanRun yX4_scanRun, Cond.code yX4_scanRun cX4_scanRun 2 none, Cond.fieldLink RX4 34 "SpellTurner$Reader" "start" "I", Cond.methodLink RX4 190 yX10_isSmall, Cond.static yX10_isSmall, Cond.initialized RX10, Cond.code yX10_isSmall cX10_isSmall 1 (some .boolean), Cond.methodLink RX4 74 yX4_blame, Cond.instanceMethod yX4_blame, Cond.selects RX4 yX4_blame yX4_blame, Cond.code yX4_blame cX4_blame 2 (some .boolean)]
def wsX4_takeLetters_r2 : List Cond := [Cond.fieldLink RX4 9 "SpellTurner$Reader" "faultKind" "I", Cond.fieldLink RX4 15 "SpellTurner$Reader" "faultPlace" "I"]
def wsX4_takeLetters : List Cond := .code yX4_takeLetters cX4_takeLetters 2 (some .boolean) :: ((wsX4_takeLetters_r1 ++ wsX4_takeLetters_r2) ++ wsX40)
def wsX4_isNew : List Cond := .code yX4_isNew cX4_isNew 2 (some .boolean) :: ([.methodLink RX4 74 yX4_blame, .instanceMethod yX4_blame, .selects RX4 yX4_blame yX4_blame, .initialized RX4, .code yX4_blame cX4_blame 2 (some .boolean), .fieldLink RX4 9 "SpellTurner$Reader" "faultKind" "I", .fieldLink RX4 31 "SpellTurner$Reader" "place" "I", .fieldLink RX4 15 "SpellTurner$Reader" "faultPlace" "I"] ++ wsX40)
def wsX4_takeNew_r1 : List Cond := [Cond.fieldLink RX4 18 "SpellTurner$Reader" "text" "[B", Cond.fieldLink RX4 34 "SpellTurner$Reader" "start" "I", Cond.fieldLink RX4 37 "SpellTurner$Reader" "length" "I", Cond.methodLink RX4 111 yX4_takeLetters, Cond.instanceMethod yX4_takeLetters, Cond.selects RX4 yX4_takeLetters yX4_takeLetters, Cond.initialized RX4, Cond.code yX4_takeLetters cX4_takeLetters 2 (some .boolean), Cond.fieldLink RX4 28 "SpellTurner$Reader" "token" "I", Cond.methodLink RX4 46 yX4_nextToken, Cond.instanceMethod yX4_nextToken, Cond.selects RX4 yX4_nextToken yX4_nextToken, Cond.code yX4_nextToken cX4_nextToken 1 none, Cond.fieldLink RX4 25 "SpellTurner$Reader" "at" "I", Cond.fieldLink RX4 22 "SpellTurner$Reader" "size" "I", Cond.fieldLink RX4 31 "SpellTurner$Reader" "place" "I", Cond.methodLink RX4 186 yX4_scanRun, Cond.instanceMethod yX4_scanRun, Cond.selects RX4 yX4_scanRun yX4_scanRun, Cond.code yX4_scanRun cX4_scanRun 2 none, Cond.methodLink RX4 190 yX10_isSmall, Cond.static yX10_isSmall, Cond.initialized RX10, Cond.code yX10_isSmall cX10_isSmall 1 (some .boolean)]
def wsX4_takeNew_r2 : List Cond := [Cond.methodLink RX4 74 yX4_blame, Cond.instanceMethod yX4_blame, Cond.selects RX4 yX4_blame yX4_blame, Cond.code yX4_blame cX4_blame 2 (some .boolean), Cond.fieldLink RX4 9 "SpellTurner$Reader" "faultKind" "I", Cond.fieldLink RX4 15 "SpellTurner$Reader" "faultPlace" "I", Cond.methodLink RX4 165 yX10_find, Cond.instanceMethod yX10_find, Cond.selects RX10 yX10_find yX10_find, Cond.code yX10_find cX10_find 5 (some .int), Cond.fieldLink RX10 9 "SpellTurner$WordRow" "count" "I", Cond.fieldLink RX10 22 "SpellTurner$WordRow" "lengths" "[I", Cond.fieldLink RX10 18 "SpellTurner$WordRow" "letters" "[B", Cond.fieldLink RX10 15 "SpellTurner$WordRow" "width" "I", Cond.methodLink RX10 44 yX10_same, Cond.static yX10_same, Cond.code yX10_same cX10_same 6 (some .boolean), Cond.methodLink RX4 147 yX4_isNew, Cond.instanceMethod yX4_isNew, Cond.selects RX4 yX4_isNew yX4_isNew, Cond.code yX4_isNew cX4_isNew 2 (some .boolean)]
def wsX4_takeNew : List Cond := .code yX4_takeNew cX4_takeNew 2 (some .boolean) :: ((wsX4_takeNew_r1 ++ wsX4_takeNew_r2) ++ wsX40 ++ wsX100)
def wsX5_addEntry : List Cond := .code yX5_addEntry cX5_addEntry 5 none :: ([.fieldLink RX5 33 "SpellTurner$Reform" "entries" "LSpellTurner$WordRow;", .fieldLink RX5 39 "SpellTurner$Reform" "kept" "[Z", .fieldLink RX5 56 "SpellTurner$WordRow" "count" "I", .fieldLink RX5 43 "SpellTurner$Reform" "keptCount" "I", .methodLink RX5 67 yX10_isFull, .instanceMethod yX10_isFull, .selects RX10 yX10_isFull yX10_isFull, .initialized RX10, .code yX10_isFull cX10_isFull 1 (some .boolean), .fieldLink RX10 9 "SpellTurner$WordRow" "count" "I", .fieldLink RX10 22 "SpellTurner$WordRow" "lengths" "[I", .methodLink RX5 63 yX10_add, .instanceMethod yX10_add, .selects RX10 yX10_add yX10_add, .code yX10_add cX10_add 4 none, .fieldLink RX10 15 "SpellTurner$WordRow" "width" "I", .fieldLink RX10 18 "SpellTurner$WordRow" "letters" "[B", .methodLink RX10 30 arraycopyName, .native arraycopyName, .static arraycopyName, .initialized "java/lang/System", .methodLink RX10 26 yX10_isFull] ++ wsX50 ++ wsX100)
def wsX5_addKept_r1 : List Cond := [Cond.fieldLink RX5 36 "SpellTurner$Reform" "becomes" "LSpellTurner$WordRow;", Cond.methodLink RX5 59 yX5_addEntry, Cond.instanceMethod yX5_addEntry, Cond.selects RX5 yX5_addEntry yX5_addEntry, Cond.initialized RX5, Cond.code yX5_addEntry cX5_addEntry 5 none, Cond.fieldLink RX5 33 "SpellTurner$Reform" "entries" "LSpellTurner$WordRow;", Cond.fieldLink RX5 39 "SpellTurner$Reform" "kept" "[Z", Cond.fieldLink RX5 56 "SpellTurner$WordRow" "count" "I", Cond.fieldLink RX5 43 "SpellTurner$Reform" "keptCount" "I", Cond.methodLink RX5 67 yX10_isFull, Cond.instanceMethod yX10_isFull, Cond.selects RX10 yX10_isFull yX10_isFull, Cond.initialized RX10, Cond.code yX10_isFull cX10_isFull 1 (some .boolean), Cond.fieldLink RX10 9 "SpellTurner$WordRow" "count" "I", Cond.fieldLink RX10 22 "SpellTurner$WordRow" "lengths" "[I", Cond.methodLink RX5 63 yX10_add, Cond.instanceMethod yX10_add, Cond.selects RX10 yX10_add yX10_add, Cond.code yX10_add cX10_add 4 none, Cond.fieldLink RX10 15 "SpellTurner$WordRow" "width" "I", Cond.fieldLink RX10 18 "SpellTurner$WordRow" "letters" "[B", Cond.methodLink RX10 30 arraycopyName]
def wsX5_addKept_r2 : List Cond := [Cond.native arraycopyName, Cond.static arraycopyName, Cond.initialized "java/lang/System", Cond.methodLink RX10 26 yX10_isFull]
def wsX5_addKept : List Cond := .code yX5_addKept cX5_addKept 4 none :: ((wsX5_addKept_r1 ++ wsX5_addKept_r2) ++ wsX50 ++ wsX100)
def wsX4_takeClose_r1 : List Cond := [Cond.fieldLink RX4 28 "SpellTurner$Reader" "token" "I", Cond.methodLink RX4 46 yX4_nextToken, Cond.instanceMethod yX4_nextToken, Cond.selects RX4 yX4_nextToken yX4_nextToken, Cond.initialized RX4, Cond.code yX4_nextToken cX4_nextToken 1 none, Cond.fieldLink RX4 25 "SpellTurner$Reader" "at" "I", Cond.fieldLink RX4 22 "SpellTurner$Reader" "size" "I", Cond.fieldLink RX4 18 "SpellTurner$Reader" "text" "[B", Cond.fieldLink RX4 31 "SpellTurner$Reader" "place" "I", Cond.fieldLink RX4 37 "SpellTurner$Reader" "length" "I", Cond.methodLink RX4 186 yX4_scanRun, Cond.instanceMethod yX4_scanRun, Cond.selects RX4 yX4_scanRun yX4_scanRun, Cond.code yX4_scanRun cX4_scanRun 2 none, Cond.fieldLink RX4 34 "SpellTurner$Reader" "start" "I", Cond.methodLink RX4 190 yX10_isSmall, Cond.static yX10_isSmall, Cond.initialized RX10, Cond.code yX10_isSmall cX10_isSmall 1 (some .boolean), Cond.methodLink RX4 74 yX4_blame, Cond.instanceMethod yX4_blame, Cond.selects RX4 yX4_blame yX4_blame, Cond.code yX4_blame cX4_blame 2 (some .boolean)]
def wsX4_takeClose_r2 : List Cond := [Cond.fieldLink RX4 9 "SpellTurner$Reader" "faultKind" "I", Cond.fieldLink RX4 15 "SpellTurner$Reader" "faultPlace" "I"]
def wsX4_takeClose : List Cond := .code yX4_takeClose cX4_takeClose 1 (some .boolean) :: ((wsX4_takeClose_r1 ++ wsX4_takeClose_r2) ++ wsX40)
def wsX4_readKeep_r1 : List Cond := [Cond.fieldLink RX4 78 "SpellTurner$Reform" "entries" "LSpellTurner$WordRow;", Cond.fieldLink RX4 18 "SpellTurner$Reader" "text" "[B", Cond.fieldLink RX4 34 "SpellTurner$Reader" "start" "I", Cond.fieldLink RX4 37 "SpellTurner$Reader" "length" "I", Cond.methodLink RX4 84 yX10_isFull, Cond.instanceMethod yX10_isFull, Cond.selects RX10 yX10_isFull yX10_isFull, Cond.initialized RX10, Cond.code yX10_isFull cX10_isFull 1 (some .boolean), Cond.fieldLink RX10 9 "SpellTurner$WordRow" "count" "I", Cond.fieldLink RX10 22 "SpellTurner$WordRow" "lengths" "[I", Cond.methodLink RX4 90 yX4_hasRoom, Cond.instanceMethod yX4_hasRoom, Cond.selects RX4 yX4_hasRoom yX4_hasRoom, Cond.initialized RX4, Cond.code yX4_hasRoom cX4_hasRoom 2 (some .boolean), Cond.methodLink RX4 74 yX4_blame, Cond.instanceMethod yX4_blame, Cond.selects RX4 yX4_blame yX4_blame, Cond.code yX4_blame cX4_blame 2 (some .boolean), Cond.fieldLink RX4 9 "SpellTurner$Reader" "faultKind" "I", Cond.fieldLink RX4 31 "SpellTurner$Reader" "place" "I", Cond.fieldLink RX4 15 "SpellTurner$Reader" "faultPlace" "I", Cond.methodLink RX4 94 yX4_takeNew]
def wsX4_readKeep_r2 : List Cond := [Cond.instanceMethod yX4_takeNew, Cond.selects RX4 yX4_takeNew yX4_takeNew, Cond.code yX4_takeNew cX4_takeNew 2 (some .boolean), Cond.methodLink RX4 111 yX4_takeLetters, Cond.instanceMethod yX4_takeLetters, Cond.selects RX4 yX4_takeLetters yX4_takeLetters, Cond.code yX4_takeLetters cX4_takeLetters 2 (some .boolean), Cond.fieldLink RX4 28 "SpellTurner$Reader" "token" "I", Cond.methodLink RX4 46 yX4_nextToken, Cond.instanceMethod yX4_nextToken, Cond.selects RX4 yX4_nextToken yX4_nextToken, Cond.code yX4_nextToken cX4_nextToken 1 none, Cond.fieldLink RX4 25 "SpellTurner$Reader" "at" "I", Cond.fieldLink RX4 22 "SpellTurner$Reader" "size" "I", Cond.methodLink RX4 186 yX4_scanRun, Cond.instanceMethod yX4_scanRun, Cond.selects RX4 yX4_scanRun yX4_scanRun, Cond.code yX4_scanRun cX4_scanRun 2 none, Cond.methodLink RX4 190 yX10_isSmall, Cond.static yX10_isSmall, Cond.code yX10_isSmall cX10_isSmall 1 (some .boolean), Cond.methodLink RX4 165 yX10_find, Cond.instanceMethod yX10_find, Cond.selects RX10 yX10_find yX10_find]
def wsX4_readKeep_r3 : List Cond := [Cond.code yX10_find cX10_find 5 (some .int), Cond.fieldLink RX10 18 "SpellTurner$WordRow" "letters" "[B", Cond.fieldLink RX10 15 "SpellTurner$WordRow" "width" "I", Cond.methodLink RX10 44 yX10_same, Cond.static yX10_same, Cond.code yX10_same cX10_same 6 (some .boolean), Cond.methodLink RX4 147 yX4_isNew, Cond.instanceMethod yX4_isNew, Cond.selects RX4 yX4_isNew yX4_isNew, Cond.code yX4_isNew cX4_isNew 2 (some .boolean), Cond.methodLink RX4 98 yX5_addKept, Cond.instanceMethod yX5_addKept, Cond.selects RX5 yX5_addKept yX5_addKept, Cond.initialized RX5, Cond.code yX5_addKept cX5_addKept 4 none, Cond.fieldLink RX5 36 "SpellTurner$Reform" "becomes" "LSpellTurner$WordRow;", Cond.methodLink RX5 59 yX5_addEntry, Cond.instanceMethod yX5_addEntry, Cond.selects RX5 yX5_addEntry yX5_addEntry, Cond.code yX5_addEntry cX5_addEntry 5 none, Cond.fieldLink RX5 33 "SpellTurner$Reform" "entries" "LSpellTurner$WordRow;", Cond.fieldLink RX5 39 "SpellTurner$Reform" "kept" "[Z", Cond.fieldLink RX5 56 "SpellTurner$WordRow" "count" "I", Cond.fieldLink RX5 43 "SpellTurner$Reform" "keptCount" "I"]
def wsX4_readKeep_r4 : List Cond := [Cond.methodLink RX5 67 yX10_isFull, Cond.methodLink RX5 63 yX10_add, Cond.instanceMethod yX10_add, Cond.selects RX10 yX10_add yX10_add, Cond.code yX10_add cX10_add 4 none, Cond.methodLink RX10 30 arraycopyName, Cond.native arraycopyName, Cond.static arraycopyName, Cond.initialized "java/lang/System", Cond.methodLink RX10 26 yX10_isFull, Cond.methodLink RX4 102 yX4_takeClose, Cond.instanceMethod yX4_takeClose, Cond.selects RX4 yX4_takeClose yX4_takeClose, Cond.code yX4_takeClose cX4_takeClose 1 (some .boolean)]
def wsX4_readKeep : List Cond := .code yX4_readKeep cX4_readKeep 2 none :: ((wsX4_readKeep_r1 ++ (wsX4_readKeep_r2 ++ (wsX4_readKeep_r3 ++ wsX4_readKeep_r4))) ++ wsX50 ++ wsX40 ++ wsX100)
def wsX5_addListed_r1 : List Cond := [Cond.methodLink RX5 59 yX5_addEntry, Cond.instanceMethod yX5_addEntry, Cond.selects RX5 yX5_addEntry yX5_addEntry, Cond.initialized RX5, Cond.code yX5_addEntry cX5_addEntry 5 none, Cond.fieldLink RX5 33 "SpellTurner$Reform" "entries" "LSpellTurner$WordRow;", Cond.fieldLink RX5 39 "SpellTurner$Reform" "kept" "[Z", Cond.fieldLink RX5 56 "SpellTurner$WordRow" "count" "I", Cond.fieldLink RX5 43 "SpellTurner$Reform" "keptCount" "I", Cond.methodLink RX5 67 yX10_isFull, Cond.instanceMethod yX10_isFull, Cond.selects RX10 yX10_isFull yX10_isFull, Cond.initialized RX10, Cond.code yX10_isFull cX10_isFull 1 (some .boolean), Cond.fieldLink RX10 9 "SpellTurner$WordRow" "count" "I", Cond.fieldLink RX10 22 "SpellTurner$WordRow" "lengths" "[I", Cond.methodLink RX5 63 yX10_add, Cond.instanceMethod yX10_add, Cond.selects RX10 yX10_add yX10_add, Cond.code yX10_add cX10_add 4 none, Cond.fieldLink RX10 15 "SpellTurner$WordRow" "width" "I", Cond.fieldLink RX10 18 "SpellTurner$WordRow" "letters" "[B", Cond.methodLink RX10 30 arraycopyName, Cond.native arraycopyName]
def wsX5_addListed_r2 : List Cond := [Cond.static arraycopyName, Cond.initialized "java/lang/System", Cond.methodLink RX10 26 yX10_isFull]
def wsX5_addListed : List Cond := .code yX5_addListed cX5_addListed 4 none :: ((wsX5_addListed_r1 ++ wsX5_addListed_r2) ++ wsX50 ++ wsX100)
def wsX4_takeTo_r1 : List Cond := [Cond.methodLink RX4 46 yX4_nextToken, Cond.instanceMethod yX4_nextToken, Cond.selects RX4 yX4_nextToken yX4_nextToken, Cond.initialized RX4, Cond.code yX4_nextToken cX4_nextToken 1 none, Cond.fieldLink RX4 25 "SpellTurner$Reader" "at" "I", Cond.fieldLink RX4 22 "SpellTurner$Reader" "size" "I", Cond.fieldLink RX4 18 "SpellTurner$Reader" "text" "[B", Cond.fieldLink RX4 31 "SpellTurner$Reader" "place" "I", Cond.fieldLink RX4 37 "SpellTurner$Reader" "length" "I", Cond.fieldLink RX4 28 "SpellTurner$Reader" "token" "I", Cond.methodLink RX4 186 yX4_scanRun, Cond.instanceMethod yX4_scanRun, Cond.selects RX4 yX4_scanRun yX4_scanRun, Cond.code yX4_scanRun cX4_scanRun 2 none, Cond.fieldLink RX4 34 "SpellTurner$Reader" "start" "I", Cond.methodLink RX4 190 yX10_isSmall, Cond.static yX10_isSmall, Cond.initialized RX10, Cond.code yX10_isSmall cX10_isSmall 1 (some .boolean), Cond.methodLink RX4 51 yX4_wordIs, Cond.instanceMethod yX4_wordIs, Cond.selects RX4 yX4_wordIs yX4_wordIs, Cond.code yX4_wordIs cX4_wordIs 3 (some .boolean)]
def wsX4_takeTo_r2 : List Cond := [Cond.methodLink RX4 177 yJ0_length_8abf5, Cond.instanceMethod yJ0_length_8abf5, Cond.selects RJ0 yJ0_length_8abf5 yJ0_length_8abf5, Cond.initialized RJ0, Cond.code yJ0_length_8abf5 cJ0_length_8abf5 1 (some .int), Cond.fieldLink RJ0 9 "java/lang/String" "value" "[B", Cond.methodLink RJ0 335 yJ0_coder_7d493, Cond.instanceMethod yJ0_coder_7d493, Cond.selects RJ0 yJ0_coder_7d493 yJ0_coder_7d493, Cond.code yJ0_coder_7d493 cJ0_coder_7d493 1 (some .byte), Cond.fieldLink RJ0 38 "java/lang/String" "COMPACT_STRINGS" "Z", Cond.fieldLink RJ0 15 "java/lang/String" "coder" "B", Cond.methodLink RX4 182 yJ0_charAt_5068e, Cond.instanceMethod yJ0_charAt_5068e, Cond.selects RJ0 yJ0_charAt_5068e yJ0_charAt_5068e, Cond.code yJ0_charAt_5068e cJ0_charAt_5068e 2 (some .char), Cond.methodLink RJ0 492 yJ0_isLatin1_aae02, Cond.instanceMethod yJ0_isLatin1_aae02, Cond.selects RJ0 yJ0_isLatin1_aae02 yJ0_isLatin1_aae02, Cond.code yJ0_isLatin1_aae02 cJ0_isLatin1_aae02 1 (some .boolean), Cond.methodLink RJ0 495 yJ1_charAt_3b067, Cond.static yJ1_charAt_3b067, Cond.initialized RJ1, Cond.code yJ1_charAt_3b067 cJ1_charAt_3b067 2 (some .char)]
def wsX4_takeTo_r3 : List Cond := [Cond.methodLink RJ1 9 yJ0_checkIndex_df160, Cond.static yJ0_checkIndex_df160, Cond.code yJ0_checkIndex_df160 cJ0_checkIndex_df160 2 none, Cond.fieldLink RJ0 1053 "jdk/internal/util/Preconditions" "SIOOBE_FORMATTER" "Ljava/util/function/BiFunction;", Cond.methodLink RJ0 1059 yJ3_checkIndex_8e157, Cond.static yJ3_checkIndex_8e157, Cond.initialized RJ3, Cond.code yJ3_checkIndex_8e157 cJ3_checkIndex_8e157 3 (some .int), Cond.methodLink RJ0 498 yJ2_charAt_3b067, Cond.static yJ2_charAt_3b067, Cond.initialized RJ2, Cond.code yJ2_charAt_3b067 cJ2_charAt_3b067 2 (some .char), Cond.methodLink RJ2 67 yJ2_checkIndex_2214a, Cond.static yJ2_checkIndex_2214a, Cond.code yJ2_checkIndex_2214a cJ2_checkIndex_2214a 2 none, Cond.methodLink RJ2 48 yJ2_length_9d52b, Cond.static yJ2_length_9d52b, Cond.code yJ2_length_9d52b cJ2_length_9d52b 1 (some .int), Cond.methodLink RJ2 414 yJ0_checkIndex_df160, Cond.methodLink RJ2 71 yJ2_getChar_3b067, Cond.static yJ2_getChar_3b067, Cond.code yJ2_getChar_3b067 cJ2_getChar_3b067 2 (some .char), Cond.fieldLink RJ2 44 "java/lang/StringUTF16" "$assertionsDisabled" "Z", Cond.fieldLink RJ2 59 "java/lang/StringUTF16" "HI_BYTE_SHIFT" "I"]
def wsX4_takeTo_r4 : List Cond := [Cond.fieldLink RJ2 63 "java/lang/StringUTF16" "LO_BYTE_SHIFT" "I", Cond.methodLink RX4 74 yX4_blame, Cond.instanceMethod yX4_blame, Cond.selects RX4 yX4_blame yX4_blame, Cond.code yX4_blame cX4_blame 2 (some .boolean), Cond.fieldLink RX4 9 "SpellTurner$Reader" "faultKind" "I", Cond.fieldLink RX4 15 "SpellTurner$Reader" "faultPlace" "I"]
def wsX4_takeTo : List Cond := .code yX4_takeTo cX4_takeTo 1 (some .boolean) :: ((wsX4_takeTo_r1 ++ (wsX4_takeTo_r2 ++ (wsX4_takeTo_r3 ++ wsX4_takeTo_r4))) ++ wsX40)
def wsX4_readList_r1 : List Cond := [Cond.fieldLink RX4 78 "SpellTurner$Reform" "entries" "LSpellTurner$WordRow;", Cond.fieldLink RX4 18 "SpellTurner$Reader" "text" "[B", Cond.fieldLink RX4 34 "SpellTurner$Reader" "start" "I", Cond.fieldLink RX4 37 "SpellTurner$Reader" "length" "I", Cond.fieldLink RX4 114 "SpellTurner$Reform" "becomes" "LSpellTurner$WordRow;", Cond.methodLink RX4 84 yX10_isFull, Cond.instanceMethod yX10_isFull, Cond.selects RX10 yX10_isFull yX10_isFull, Cond.initialized RX10, Cond.code yX10_isFull cX10_isFull 1 (some .boolean), Cond.fieldLink RX10 9 "SpellTurner$WordRow" "count" "I", Cond.fieldLink RX10 22 "SpellTurner$WordRow" "lengths" "[I", Cond.methodLink RX4 90 yX4_hasRoom, Cond.instanceMethod yX4_hasRoom, Cond.selects RX4 yX4_hasRoom yX4_hasRoom, Cond.initialized RX4, Cond.code yX4_hasRoom cX4_hasRoom 2 (some .boolean), Cond.methodLink RX4 74 yX4_blame, Cond.instanceMethod yX4_blame, Cond.selects RX4 yX4_blame yX4_blame, Cond.code yX4_blame cX4_blame 2 (some .boolean), Cond.fieldLink RX4 9 "SpellTurner$Reader" "faultKind" "I", Cond.fieldLink RX4 31 "SpellTurner$Reader" "place" "I", Cond.fieldLink RX4 15 "SpellTurner$Reader" "faultPlace" "I"]
def wsX4_readList_r2 : List Cond := [Cond.methodLink RX4 94 yX4_takeNew, Cond.instanceMethod yX4_takeNew, Cond.selects RX4 yX4_takeNew yX4_takeNew, Cond.code yX4_takeNew cX4_takeNew 2 (some .boolean), Cond.methodLink RX4 111 yX4_takeLetters, Cond.instanceMethod yX4_takeLetters, Cond.selects RX4 yX4_takeLetters yX4_takeLetters, Cond.code yX4_takeLetters cX4_takeLetters 2 (some .boolean), Cond.fieldLink RX4 28 "SpellTurner$Reader" "token" "I", Cond.methodLink RX4 46 yX4_nextToken, Cond.instanceMethod yX4_nextToken, Cond.selects RX4 yX4_nextToken yX4_nextToken, Cond.code yX4_nextToken cX4_nextToken 1 none, Cond.fieldLink RX4 25 "SpellTurner$Reader" "at" "I", Cond.fieldLink RX4 22 "SpellTurner$Reader" "size" "I", Cond.methodLink RX4 186 yX4_scanRun, Cond.instanceMethod yX4_scanRun, Cond.selects RX4 yX4_scanRun yX4_scanRun, Cond.code yX4_scanRun cX4_scanRun 2 none, Cond.methodLink RX4 190 yX10_isSmall, Cond.static yX10_isSmall, Cond.code yX10_isSmall cX10_isSmall 1 (some .boolean), Cond.methodLink RX4 165 yX10_find, Cond.instanceMethod yX10_find]
def wsX4_readList_r3 : List Cond := [Cond.selects RX10 yX10_find yX10_find, Cond.code yX10_find cX10_find 5 (some .int), Cond.fieldLink RX10 18 "SpellTurner$WordRow" "letters" "[B", Cond.fieldLink RX10 15 "SpellTurner$WordRow" "width" "I", Cond.methodLink RX10 44 yX10_same, Cond.static yX10_same, Cond.code yX10_same cX10_same 6 (some .boolean), Cond.methodLink RX4 147 yX4_isNew, Cond.instanceMethod yX4_isNew, Cond.selects RX4 yX4_isNew yX4_isNew, Cond.code yX4_isNew cX4_isNew 2 (some .boolean), Cond.methodLink RX4 105 yX5_addListed, Cond.instanceMethod yX5_addListed, Cond.selects RX5 yX5_addListed yX5_addListed, Cond.initialized RX5, Cond.code yX5_addListed cX5_addListed 4 none, Cond.methodLink RX5 59 yX5_addEntry, Cond.instanceMethod yX5_addEntry, Cond.selects RX5 yX5_addEntry yX5_addEntry, Cond.code yX5_addEntry cX5_addEntry 5 none, Cond.fieldLink RX5 33 "SpellTurner$Reform" "entries" "LSpellTurner$WordRow;", Cond.fieldLink RX5 39 "SpellTurner$Reform" "kept" "[Z", Cond.fieldLink RX5 56 "SpellTurner$WordRow" "count" "I", Cond.fieldLink RX5 43 "SpellTurner$Reform" "keptCount" "I"]
def wsX4_readList_r4 : List Cond := [Cond.methodLink RX5 67 yX10_isFull, Cond.methodLink RX5 63 yX10_add, Cond.instanceMethod yX10_add, Cond.selects RX10 yX10_add yX10_add, Cond.code yX10_add cX10_add 4 none, Cond.methodLink RX10 30 arraycopyName, Cond.native arraycopyName, Cond.static arraycopyName, Cond.initialized "java/lang/System", Cond.methodLink RX10 26 yX10_isFull, Cond.methodLink RX4 108 yX4_takeTo, Cond.instanceMethod yX4_takeTo, Cond.selects RX4 yX4_takeTo yX4_takeTo, Cond.code yX4_takeTo cX4_takeTo 1 (some .boolean), Cond.methodLink RX4 51 yX4_wordIs, Cond.instanceMethod yX4_wordIs, Cond.selects RX4 yX4_wordIs yX4_wordIs, Cond.code yX4_wordIs cX4_wordIs 3 (some .boolean), Cond.methodLink RX4 177 yJ0_length_8abf5, Cond.instanceMethod yJ0_length_8abf5, Cond.selects RJ0 yJ0_length_8abf5 yJ0_length_8abf5, Cond.initialized RJ0, Cond.code yJ0_length_8abf5 cJ0_length_8abf5 1 (some .int), Cond.fieldLink RJ0 9 "java/lang/String" "value" "[B"]
def wsX4_readList_r5 : List Cond := [Cond.methodLink RJ0 335 yJ0_coder_7d493, Cond.instanceMethod yJ0_coder_7d493, Cond.selects RJ0 yJ0_coder_7d493 yJ0_coder_7d493, Cond.code yJ0_coder_7d493 cJ0_coder_7d493 1 (some .byte), Cond.fieldLink RJ0 38 "java/lang/String" "COMPACT_STRINGS" "Z", Cond.fieldLink RJ0 15 "java/lang/String" "coder" "B", Cond.methodLink RX4 182 yJ0_charAt_5068e, Cond.instanceMethod yJ0_charAt_5068e, Cond.selects RJ0 yJ0_charAt_5068e yJ0_charAt_5068e, Cond.code yJ0_charAt_5068e cJ0_charAt_5068e 2 (some .char), Cond.methodLink RJ0 492 yJ0_isLatin1_aae02, Cond.instanceMethod yJ0_isLatin1_aae02, Cond.selects RJ0 yJ0_isLatin1_aae02 yJ0_isLatin1_aae02, Cond.code yJ0_isLatin1_aae02 cJ0_isLatin1_aae02 1 (some .boolean), Cond.methodLink RJ0 495 yJ1_charAt_3b067, Cond.static yJ1_charAt_3b067, Cond.initialized RJ1, Cond.code yJ1_charAt_3b067 cJ1_charAt_3b067 2 (some .char), Cond.methodLink RJ1 9 yJ0_checkIndex_df160, Cond.static yJ0_checkIndex_df160, Cond.code yJ0_checkIndex_df160 cJ0_checkIndex_df160 2 none, Cond.fieldLink RJ0 1053 "jdk/internal/util/Preconditions" "SIOOBE_FORMATTER" "Ljava/util/function/BiFunction;", Cond.methodLink RJ0 1059 yJ3_checkIndex_8e157, Cond.static yJ3_checkIndex_8e157]
def wsX4_readList_r6 : List Cond := [Cond.initialized RJ3, Cond.code yJ3_checkIndex_8e157 cJ3_checkIndex_8e157 3 (some .int), Cond.methodLink RJ0 498 yJ2_charAt_3b067, Cond.static yJ2_charAt_3b067, Cond.initialized RJ2, Cond.code yJ2_charAt_3b067 cJ2_charAt_3b067 2 (some .char), Cond.methodLink RJ2 67 yJ2_checkIndex_2214a, Cond.static yJ2_checkIndex_2214a, Cond.code yJ2_checkIndex_2214a cJ2_checkIndex_2214a 2 none, Cond.methodLink RJ2 48 yJ2_length_9d52b, Cond.static yJ2_length_9d52b, Cond.code yJ2_length_9d52b cJ2_length_9d52b 1 (some .int), Cond.methodLink RJ2 414 yJ0_checkIndex_df160, Cond.methodLink RJ2 71 yJ2_getChar_3b067, Cond.static yJ2_getChar_3b067, Cond.code yJ2_getChar_3b067 cJ2_getChar_3b067 2 (some .char), Cond.fieldLink RJ2 44 "java/lang/StringUTF16" "$assertionsDisabled" "Z", Cond.fieldLink RJ2 59 "java/lang/StringUTF16" "HI_BYTE_SHIFT" "I", Cond.fieldLink RJ2 63 "java/lang/StringUTF16" "LO_BYTE_SHIFT" "I", Cond.methodLink RX4 117 yX10_add, Cond.methodLink RX4 102 yX4_takeClose, Cond.instanceMethod yX4_takeClose, Cond.selects RX4 yX4_takeClose yX4_takeClose, Cond.code yX4_takeClose cX4_takeClose 1 (some .boolean)]
def wsX4_readList : List Cond := .code yX4_readList cX4_readList 2 none :: ((wsX4_readList_r1 ++ (wsX4_readList_r2 ++ (wsX4_readList_r3 ++ (wsX4_readList_r4 ++ (wsX4_readList_r5 ++ wsX4_readList_r6))))) ++ wsX50 ++ wsX40 ++ wsX100)
def wsX4_readPart_r1 : List Cond := [Cond.fieldLink RX4 120 "SpellTurner$Reform" "parts" "LSpellTurner$WordRow;", Cond.fieldLink RX4 18 "SpellTurner$Reader" "text" "[B", Cond.fieldLink RX4 34 "SpellTurner$Reader" "start" "I", Cond.fieldLink RX4 37 "SpellTurner$Reader" "length" "I", Cond.methodLink RX4 84 yX10_isFull, Cond.instanceMethod yX10_isFull, Cond.selects RX10 yX10_isFull yX10_isFull, Cond.initialized RX10, Cond.code yX10_isFull cX10_isFull 1 (some .boolean), Cond.fieldLink RX10 9 "SpellTurner$WordRow" "count" "I", Cond.fieldLink RX10 22 "SpellTurner$WordRow" "lengths" "[I", Cond.methodLink RX4 90 yX4_hasRoom, Cond.instanceMethod yX4_hasRoom, Cond.selects RX4 yX4_hasRoom yX4_hasRoom, Cond.initialized RX4, Cond.code yX4_hasRoom cX4_hasRoom 2 (some .boolean), Cond.methodLink RX4 74 yX4_blame, Cond.instanceMethod yX4_blame, Cond.selects RX4 yX4_blame yX4_blame, Cond.code yX4_blame cX4_blame 2 (some .boolean), Cond.fieldLink RX4 9 "SpellTurner$Reader" "faultKind" "I", Cond.fieldLink RX4 31 "SpellTurner$Reader" "place" "I", Cond.fieldLink RX4 15 "SpellTurner$Reader" "faultPlace" "I", Cond.methodLink RX4 94 yX4_takeNew]
def wsX4_readPart_r2 : List Cond := [Cond.instanceMethod yX4_takeNew, Cond.selects RX4 yX4_takeNew yX4_takeNew, Cond.code yX4_takeNew cX4_takeNew 2 (some .boolean), Cond.methodLink RX4 111 yX4_takeLetters, Cond.instanceMethod yX4_takeLetters, Cond.selects RX4 yX4_takeLetters yX4_takeLetters, Cond.code yX4_takeLetters cX4_takeLetters 2 (some .boolean), Cond.fieldLink RX4 28 "SpellTurner$Reader" "token" "I", Cond.methodLink RX4 46 yX4_nextToken, Cond.instanceMethod yX4_nextToken, Cond.selects RX4 yX4_nextToken yX4_nextToken, Cond.code yX4_nextToken cX4_nextToken 1 none, Cond.fieldLink RX4 25 "SpellTurner$Reader" "at" "I", Cond.fieldLink RX4 22 "SpellTurner$Reader" "size" "I", Cond.methodLink RX4 186 yX4_scanRun, Cond.instanceMethod yX4_scanRun, Cond.selects RX4 yX4_scanRun yX4_scanRun, Cond.code yX4_scanRun cX4_scanRun 2 none, Cond.methodLink RX4 190 yX10_isSmall, Cond.static yX10_isSmall, Cond.code yX10_isSmall cX10_isSmall 1 (some .boolean), Cond.methodLink RX4 165 yX10_find, Cond.instanceMethod yX10_find, Cond.selects RX10 yX10_find yX10_find]
def wsX4_readPart_r3 : List Cond := [Cond.code yX10_find cX10_find 5 (some .int), Cond.fieldLink RX10 18 "SpellTurner$WordRow" "letters" "[B", Cond.fieldLink RX10 15 "SpellTurner$WordRow" "width" "I", Cond.methodLink RX10 44 yX10_same, Cond.static yX10_same, Cond.code yX10_same cX10_same 6 (some .boolean), Cond.methodLink RX4 147 yX4_isNew, Cond.instanceMethod yX4_isNew, Cond.selects RX4 yX4_isNew yX4_isNew, Cond.code yX4_isNew cX4_isNew 2 (some .boolean), Cond.methodLink RX4 117 yX10_add, Cond.instanceMethod yX10_add, Cond.selects RX10 yX10_add yX10_add, Cond.code yX10_add cX10_add 4 none, Cond.methodLink RX10 30 arraycopyName, Cond.native arraycopyName, Cond.static arraycopyName, Cond.initialized "java/lang/System", Cond.methodLink RX10 26 yX10_isFull, Cond.methodLink RX4 102 yX4_takeClose, Cond.instanceMethod yX4_takeClose, Cond.selects RX4 yX4_takeClose yX4_takeClose, Cond.code yX4_takeClose cX4_takeClose 1 (some .boolean)]
def wsX4_readPart : List Cond := .code yX4_readPart cX4_readPart 2 none :: ((wsX4_readPart_r1 ++ (wsX4_readPart_r2 ++ wsX4_readPart_r3)) ++ wsX50 ++ wsX40 ++ wsX100)
def wsJ7_checkLength_df160 : List Cond := .code yJ7_checkLength_df160 cJ7_checkLength_df160 2 none :: ([])
def wsJ7_copyOfRangeByte_39247 : List Cond := .code yJ7_copyOfRangeByte_39247 cJ7_copyOfRangeByte_39247 5 (some (.array .byte)) :: ([.arrayClass .byte, .methodLink RJ7 304 Lib.Math.min.name, .static Lib.Math.min.name, .initialized "java/lang/Math", .code Lib.Math.min.name Lib.Math.min.code 2 (some .int), .methodLink RJ7 150 arraycopyName, .native arraycopyName, .static arraycopyName, .initialized "java/lang/System", .methodLink RJ7 343 yJ7_checkLength_df160, .static yJ7_checkLength_df160, .initialized RJ7, .code yJ7_checkLength_df160 cJ7_checkLength_df160 2 none])
def wsJ7_copyOfRange_39247 : List Cond := .code yJ7_copyOfRange_39247 cJ7_copyOfRange_39247 3 (some (.array .byte)) :: ([.methodLink RJ7 310 ⟨"[B", "clone", "()Ljava/lang/Object;"⟩, .sameMethod "[B" "java/lang/Object" "clone" "()Ljava/lang/Object;", .native ⟨"java/lang/Object", "clone", "()Ljava/lang/Object;"⟩, .instanceMethod ⟨"java/lang/Object", "clone", "()Ljava/lang/Object;"⟩, .selects "[B" ⟨"[B", "clone", "()Ljava/lang/Object;"⟩ ⟨"java/lang/Object", "clone", "()Ljava/lang/Object;"⟩, .classLink RJ7 311 "[B", .methodLink RJ7 339 yJ7_copyOfRangeByte_39247, .static yJ7_copyOfRangeByte_39247, .initialized RJ7, .code yJ7_copyOfRangeByte_39247 cJ7_copyOfRangeByte_39247 5 (some (.array .byte)), .arrayClass .byte, .methodLink RJ7 304 Lib.Math.min.name, .static Lib.Math.min.name, .initialized "java/lang/Math", .code Lib.Math.min.name Lib.Math.min.code 2 (some .int), .methodLink RJ7 150 arraycopyName, .native arraycopyName, .static arraycopyName, .initialized "java/lang/System", .methodLink RJ7 343 yJ7_checkLength_df160, .static yJ7_checkLength_df160, .code yJ7_checkLength_df160 cJ7_checkLength_df160 2 none])
def wsX4_letters_r1 : List Cond := [Cond.fieldLink RX4 18 "SpellTurner$Reader" "text" "[B", Cond.fieldLink RX4 34 "SpellTurner$Reader" "start" "I", Cond.fieldLink RX4 37 "SpellTurner$Reader" "length" "I", Cond.methodLink RX4 171 yJ7_copyOfRange_39247, Cond.static yJ7_copyOfRange_39247, Cond.initialized RJ7, Cond.code yJ7_copyOfRange_39247 cJ7_copyOfRange_39247 3 (some (.array .byte)), Cond.methodLink RJ7 310 ⟨"[B", "clone", "()Ljava/lang/Object;"⟩, Cond.sameMethod "[B" "java/lang/Object" "clone" "()Ljava/lang/Object;", Cond.native ⟨"java/lang/Object", "clone", "()Ljava/lang/Object;"⟩, Cond.instanceMethod ⟨"java/lang/Object", "clone", "()Ljava/lang/Object;"⟩, Cond.selects "[B" ⟨"[B", "clone", "()Ljava/lang/Object;"⟩ ⟨"java/lang/Object", "clone", "()Ljava/lang/Object;"⟩, Cond.classLink RJ7 311 "[B", Cond.methodLink RJ7 339 yJ7_copyOfRangeByte_39247, Cond.static yJ7_copyOfRangeByte_39247, Cond.code yJ7_copyOfRangeByte_39247 cJ7_copyOfRangeByte_39247 5 (some (.array .byte)), Cond.arrayClass .byte, Cond.methodLink RJ7 304 Lib.Math.min.name, Cond.static Lib.Math.min.name, Cond.initialized "java/lang/Math", Cond.code Lib.Math.min.name Lib.Math.min.code 2 (some .int), Cond.methodLink RJ7 150 arraycopyName, Cond.native arraycopyName, Cond.static arraycopyName]
def wsX4_letters_r2 : List Cond := [Cond.initialized "java/lang/System", Cond.methodLink RJ7 343 yJ7_checkLength_df160, Cond.static yJ7_checkLength_df160, Cond.code yJ7_checkLength_df160 cJ7_checkLength_df160 2 none]
def wsX4_letters : List Cond := .code yX4_letters cX4_letters 1 (some (.array .byte)) :: ((wsX4_letters_r1 ++ wsX4_letters_r2) ++ wsX40)
def wsX5_addLaw : List Cond := .code yX5_addLaw cX5_addLaw 2 none :: ([.fieldLink RX5 21 "SpellTurner$Reform" "lawCount" "I", .fieldLink RX5 17 "SpellTurner$Reform" "laws" "[LSpellTurner$Law;"] ++ wsX50)
def wsX4_readSide_r1 : List Cond := [Cond.fieldLink RX4 143 "SpellTurner$Law" "atStart" "Z", Cond.fieldLink RX4 152 "SpellTurner$Law" "atEnd" "Z", Cond.fieldLink RX4 157 "SpellTurner$Law" "ahead" "[B", Cond.fieldLink RX4 162 "SpellTurner$Law" "behind" "[B", Cond.methodLink RX4 51 yX4_wordIs, Cond.instanceMethod yX4_wordIs, Cond.selects RX4 yX4_wordIs yX4_wordIs, Cond.initialized RX4, Cond.code yX4_wordIs cX4_wordIs 3 (some .boolean), Cond.fieldLink RX4 28 "SpellTurner$Reader" "token" "I", Cond.fieldLink RX4 37 "SpellTurner$Reader" "length" "I", Cond.fieldLink RX4 18 "SpellTurner$Reader" "text" "[B", Cond.fieldLink RX4 34 "SpellTurner$Reader" "start" "I", Cond.methodLink RX4 177 yJ0_length_8abf5, Cond.instanceMethod yJ0_length_8abf5, Cond.selects RJ0 yJ0_length_8abf5 yJ0_length_8abf5, Cond.initialized RJ0, Cond.code yJ0_length_8abf5 cJ0_length_8abf5 1 (some .int), Cond.fieldLink RJ0 9 "java/lang/String" "value" "[B", Cond.methodLink RJ0 335 yJ0_coder_7d493, Cond.instanceMethod yJ0_coder_7d493, Cond.selects RJ0 yJ0_coder_7d493 yJ0_coder_7d493, Cond.code yJ0_coder_7d493 cJ0_coder_7d493 1 (some .byte), Cond.fieldLink RJ0 38 "java/lang/String" "COMPACT_STRINGS" "Z"]
def wsX4_readSide_r2 : List Cond := [Cond.fieldLink RJ0 15 "java/lang/String" "coder" "B", Cond.methodLink RX4 182 yJ0_charAt_5068e, Cond.instanceMethod yJ0_charAt_5068e, Cond.selects RJ0 yJ0_charAt_5068e yJ0_charAt_5068e, Cond.code yJ0_charAt_5068e cJ0_charAt_5068e 2 (some .char), Cond.methodLink RJ0 492 yJ0_isLatin1_aae02, Cond.instanceMethod yJ0_isLatin1_aae02, Cond.selects RJ0 yJ0_isLatin1_aae02 yJ0_isLatin1_aae02, Cond.code yJ0_isLatin1_aae02 cJ0_isLatin1_aae02 1 (some .boolean), Cond.methodLink RJ0 495 yJ1_charAt_3b067, Cond.static yJ1_charAt_3b067, Cond.initialized RJ1, Cond.code yJ1_charAt_3b067 cJ1_charAt_3b067 2 (some .char), Cond.methodLink RJ1 9 yJ0_checkIndex_df160, Cond.static yJ0_checkIndex_df160, Cond.code yJ0_checkIndex_df160 cJ0_checkIndex_df160 2 none, Cond.fieldLink RJ0 1053 "jdk/internal/util/Preconditions" "SIOOBE_FORMATTER" "Ljava/util/function/BiFunction;", Cond.methodLink RJ0 1059 yJ3_checkIndex_8e157, Cond.static yJ3_checkIndex_8e157, Cond.initialized RJ3, Cond.code yJ3_checkIndex_8e157 cJ3_checkIndex_8e157 3 (some .int), Cond.methodLink RJ0 498 yJ2_charAt_3b067, Cond.static yJ2_charAt_3b067, Cond.initialized RJ2]
def wsX4_readSide_r3 : List Cond := [Cond.code yJ2_charAt_3b067 cJ2_charAt_3b067 2 (some .char), Cond.methodLink RJ2 67 yJ2_checkIndex_2214a, Cond.static yJ2_checkIndex_2214a, Cond.code yJ2_checkIndex_2214a cJ2_checkIndex_2214a 2 none, Cond.methodLink RJ2 48 yJ2_length_9d52b, Cond.static yJ2_length_9d52b, Cond.code yJ2_length_9d52b cJ2_length_9d52b 1 (some .int), Cond.methodLink RJ2 414 yJ0_checkIndex_df160, Cond.methodLink RJ2 71 yJ2_getChar_3b067, Cond.static yJ2_getChar_3b067, Cond.code yJ2_getChar_3b067 cJ2_getChar_3b067 2 (some .char), Cond.fieldLink RJ2 44 "java/lang/StringUTF16" "$assertionsDisabled" "Z", Cond.fieldLink RJ2 59 "java/lang/StringUTF16" "HI_BYTE_SHIFT" "I", Cond.fieldLink RJ2 63 "java/lang/StringUTF16" "LO_BYTE_SHIFT" "I", Cond.methodLink RX4 147 yX4_isNew, Cond.instanceMethod yX4_isNew, Cond.selects RX4 yX4_isNew yX4_isNew, Cond.code yX4_isNew cX4_isNew 2 (some .boolean), Cond.methodLink RX4 74 yX4_blame, Cond.instanceMethod yX4_blame, Cond.selects RX4 yX4_blame yX4_blame, Cond.code yX4_blame cX4_blame 2 (some .boolean), Cond.fieldLink RX4 9 "SpellTurner$Reader" "faultKind" "I", Cond.fieldLink RX4 31 "SpellTurner$Reader" "place" "I"]
def wsX4_readSide_r4 : List Cond := [Cond.fieldLink RX4 15 "SpellTurner$Reader" "faultPlace" "I", Cond.methodLink RX4 111 yX4_takeLetters, Cond.instanceMethod yX4_takeLetters, Cond.selects RX4 yX4_takeLetters yX4_takeLetters, Cond.code yX4_takeLetters cX4_takeLetters 2 (some .boolean), Cond.methodLink RX4 46 yX4_nextToken, Cond.instanceMethod yX4_nextToken, Cond.selects RX4 yX4_nextToken yX4_nextToken, Cond.code yX4_nextToken cX4_nextToken 1 none, Cond.fieldLink RX4 25 "SpellTurner$Reader" "at" "I", Cond.fieldLink RX4 22 "SpellTurner$Reader" "size" "I", Cond.methodLink RX4 186 yX4_scanRun, Cond.instanceMethod yX4_scanRun, Cond.selects RX4 yX4_scanRun yX4_scanRun, Cond.code yX4_scanRun cX4_scanRun 2 none, Cond.methodLink RX4 190 yX10_isSmall, Cond.static yX10_isSmall, Cond.initialized RX10, Cond.code yX10_isSmall cX10_isSmall 1 (some .boolean), Cond.methodLink RX4 126 yX4_letters, Cond.instanceMethod yX4_letters, Cond.selects RX4 yX4_letters yX4_letters, Cond.code yX4_letters cX4_letters 1 (some (.array .byte)), Cond.methodLink RX4 171 yJ7_copyOfRange_39247]
def wsX4_readSide_r5 : List Cond := [Cond.static yJ7_copyOfRange_39247, Cond.initialized RJ7, Cond.code yJ7_copyOfRange_39247 cJ7_copyOfRange_39247 3 (some (.array .byte)), Cond.methodLink RJ7 310 ⟨"[B", "clone", "()Ljava/lang/Object;"⟩, Cond.sameMethod "[B" "java/lang/Object" "clone" "()Ljava/lang/Object;", Cond.native ⟨"java/lang/Object", "clone", "()Ljava/lang/Object;"⟩, Cond.instanceMethod ⟨"java/lang/Object", "clone", "()Ljava/lang/Object;"⟩, Cond.selects "[B" ⟨"[B", "clone", "()Ljava/lang/Object;"⟩ ⟨"java/lang/Object", "clone", "()Ljava/lang/Object;"⟩, Cond.classLink RJ7 311 "[B", Cond.methodLink RJ7 339 yJ7_copyOfRangeByte_39247, Cond.static yJ7_copyOfRangeByte_39247, Cond.code yJ7_copyOfRangeByte_39247 cJ7_copyOfRangeByte_39247 5 (some (.array .byte)), Cond.arrayClass .byte, Cond.methodLink RJ7 304 Lib.Math.min.name, Cond.static Lib.Math.min.name, Cond.initialized "java/lang/Math", Cond.code Lib.Math.min.name Lib.Math.min.code 2 (some .int), Cond.methodLink RJ7 150 arraycopyName, Cond.native arraycopyName, Cond.static arraycopyName, Cond.initialized "java/lang/System", Cond.methodLink RJ7 343 yJ7_checkLength_df160, Cond.static yJ7_checkLength_df160, Cond.code yJ7_checkLength_df160 cJ7_checkLength_df160 2 none]
def wsX4_readSide : List Cond := .code yX4_readSide cX4_readSide 2 none :: ((wsX4_readSide_r1 ++ (wsX4_readSide_r2 ++ (wsX4_readSide_r3 ++ (wsX4_readSide_r4 ++ wsX4_readSide_r5)))) ++ wsX10 ++ wsX40)
def wsX4_readLaw_r1 : List Cond := [Cond.fieldLink RX4 123 "SpellTurner$Reform" "lawCount" "I", Cond.classLink RX4 130 RX1, Cond.instantiable RX1 6, Cond.initialized RX1, Cond.fieldLink RX4 9 "SpellTurner$Reader" "faultKind" "I", Cond.fieldLink RX4 28 "SpellTurner$Reader" "token" "I", Cond.methodLink RX4 90 yX4_hasRoom, Cond.instanceMethod yX4_hasRoom, Cond.selects RX4 yX4_hasRoom yX4_hasRoom, Cond.initialized RX4, Cond.code yX4_hasRoom cX4_hasRoom 2 (some .boolean), Cond.methodLink RX4 74 yX4_blame, Cond.instanceMethod yX4_blame, Cond.selects RX4 yX4_blame yX4_blame, Cond.code yX4_blame cX4_blame 2 (some .boolean), Cond.fieldLink RX4 31 "SpellTurner$Reader" "place" "I", Cond.fieldLink RX4 15 "SpellTurner$Reader" "faultPlace" "I", Cond.methodLink RX4 111 yX4_takeLetters, Cond.instanceMethod yX4_takeLetters, Cond.selects RX4 yX4_takeLetters yX4_takeLetters, Cond.code yX4_takeLetters cX4_takeLetters 2 (some .boolean), Cond.fieldLink RX4 37 "SpellTurner$Reader" "length" "I", Cond.methodLink RX4 46 yX4_nextToken, Cond.instanceMethod yX4_nextToken]
def wsX4_readLaw_r2 : List Cond := [Cond.selects RX4 yX4_nextToken yX4_nextToken, Cond.code yX4_nextToken cX4_nextToken 1 none, Cond.fieldLink RX4 25 "SpellTurner$Reader" "at" "I", Cond.fieldLink RX4 22 "SpellTurner$Reader" "size" "I", Cond.fieldLink RX4 18 "SpellTurner$Reader" "text" "[B", Cond.methodLink RX4 186 yX4_scanRun, Cond.instanceMethod yX4_scanRun, Cond.selects RX4 yX4_scanRun yX4_scanRun, Cond.code yX4_scanRun cX4_scanRun 2 none, Cond.fieldLink RX4 34 "SpellTurner$Reader" "start" "I", Cond.methodLink RX4 190 yX10_isSmall, Cond.static yX10_isSmall, Cond.initialized RX10, Cond.code yX10_isSmall cX10_isSmall 1 (some .boolean), Cond.methodLink RX4 126 yX4_letters, Cond.instanceMethod yX4_letters, Cond.selects RX4 yX4_letters yX4_letters, Cond.code yX4_letters cX4_letters 1 (some (.array .byte)), Cond.methodLink RX4 171 yJ7_copyOfRange_39247, Cond.static yJ7_copyOfRange_39247, Cond.initialized RJ7, Cond.code yJ7_copyOfRange_39247 cJ7_copyOfRange_39247 3 (some (.array .byte)), Cond.methodLink RJ7 310 ⟨"[B", "clone", "()Ljava/lang/Object;"⟩, Cond.sameMethod "[B" "java/lang/Object" "clone" "()Ljava/lang/Object;"]
def wsX4_readLaw_r3 : List Cond := [Cond.native ⟨"java/lang/Object", "clone", "()Ljava/lang/Object;"⟩, Cond.instanceMethod ⟨"java/lang/Object", "clone", "()Ljava/lang/Object;"⟩, Cond.selects "[B" ⟨"[B", "clone", "()Ljava/lang/Object;"⟩ ⟨"java/lang/Object", "clone", "()Ljava/lang/Object;"⟩, Cond.classLink RJ7 311 "[B", Cond.methodLink RJ7 339 yJ7_copyOfRangeByte_39247, Cond.static yJ7_copyOfRangeByte_39247, Cond.code yJ7_copyOfRangeByte_39247 cJ7_copyOfRangeByte_39247 5 (some (.array .byte)), Cond.arrayClass .byte, Cond.methodLink RJ7 304 Lib.Math.min.name, Cond.static Lib.Math.min.name, Cond.initialized "java/lang/Math", Cond.code Lib.Math.min.name Lib.Math.min.code 2 (some .int), Cond.methodLink RJ7 150 arraycopyName, Cond.native arraycopyName, Cond.static arraycopyName, Cond.initialized "java/lang/System", Cond.methodLink RJ7 343 yJ7_checkLength_df160, Cond.static yJ7_checkLength_df160, Cond.code yJ7_checkLength_df160 cJ7_checkLength_df160 2 none, Cond.methodLink RX4 108 yX4_takeTo, Cond.instanceMethod yX4_takeTo, Cond.selects RX4 yX4_takeTo yX4_takeTo, Cond.code yX4_takeTo cX4_takeTo 1 (some .boolean), Cond.methodLink RX4 51 yX4_wordIs]
def wsX4_readLaw_r4 : List Cond := [Cond.instanceMethod yX4_wordIs, Cond.selects RX4 yX4_wordIs yX4_wordIs, Cond.code yX4_wordIs cX4_wordIs 3 (some .boolean), Cond.methodLink RX4 177 yJ0_length_8abf5, Cond.instanceMethod yJ0_length_8abf5, Cond.selects RJ0 yJ0_length_8abf5 yJ0_length_8abf5, Cond.initialized RJ0, Cond.code yJ0_length_8abf5 cJ0_length_8abf5 1 (some .int), Cond.fieldLink RJ0 9 "java/lang/String" "value" "[B", Cond.methodLink RJ0 335 yJ0_coder_7d493, Cond.instanceMethod yJ0_coder_7d493, Cond.selects RJ0 yJ0_coder_7d493 yJ0_coder_7d493, Cond.code yJ0_coder_7d493 cJ0_coder_7d493 1 (some .byte), Cond.fieldLink RJ0 38 "java/lang/String" "COMPACT_STRINGS" "Z", Cond.fieldLink RJ0 15 "java/lang/String" "coder" "B", Cond.methodLink RX4 182 yJ0_charAt_5068e, Cond.instanceMethod yJ0_charAt_5068e, Cond.selects RJ0 yJ0_charAt_5068e yJ0_charAt_5068e, Cond.code yJ0_charAt_5068e cJ0_charAt_5068e 2 (some .char), Cond.methodLink RJ0 492 yJ0_isLatin1_aae02, Cond.instanceMethod yJ0_isLatin1_aae02, Cond.selects RJ0 yJ0_isLatin1_aae02 yJ0_isLatin1_aae02, Cond.code yJ0_isLatin1_aae02 cJ0_isLatin1_aae02 1 (some .boolean), Cond.methodLink RJ0 495 yJ1_charAt_3b067]
def wsX4_readLaw_r5 : List Cond := [Cond.static yJ1_charAt_3b067, Cond.initialized RJ1, Cond.code yJ1_charAt_3b067 cJ1_charAt_3b067 2 (some .char), Cond.methodLink RJ1 9 yJ0_checkIndex_df160, Cond.static yJ0_checkIndex_df160, Cond.code yJ0_checkIndex_df160 cJ0_checkIndex_df160 2 none, Cond.fieldLink RJ0 1053 "jdk/internal/util/Preconditions" "SIOOBE_FORMATTER" "Ljava/util/function/BiFunction;", Cond.methodLink RJ0 1059 yJ3_checkIndex_8e157, Cond.static yJ3_checkIndex_8e157, Cond.initialized RJ3, Cond.code yJ3_checkIndex_8e157 cJ3_checkIndex_8e157 3 (some .int), Cond.methodLink RJ0 498 yJ2_charAt_3b067, Cond.static yJ2_charAt_3b067, Cond.initialized RJ2, Cond.code yJ2_charAt_3b067 cJ2_charAt_3b067 2 (some .char), Cond.methodLink RJ2 67 yJ2_checkIndex_2214a, Cond.static yJ2_checkIndex_2214a, Cond.code yJ2_checkIndex_2214a cJ2_checkIndex_2214a 2 none, Cond.methodLink RJ2 48 yJ2_length_9d52b, Cond.static yJ2_length_9d52b, Cond.code yJ2_length_9d52b cJ2_length_9d52b 1 (some .int), Cond.methodLink RJ2 414 yJ0_checkIndex_df160, Cond.methodLink RJ2 71 yJ2_getChar_3b067, Cond.static yJ2_getChar_3b067]
def wsX4_readLaw_r6 : List Cond := [Cond.code yJ2_getChar_3b067 cJ2_getChar_3b067 2 (some .char), Cond.fieldLink RJ2 44 "java/lang/StringUTF16" "$assertionsDisabled" "Z", Cond.fieldLink RJ2 59 "java/lang/StringUTF16" "HI_BYTE_SHIFT" "I", Cond.fieldLink RJ2 63 "java/lang/StringUTF16" "LO_BYTE_SHIFT" "I", Cond.methodLink RX4 132 yX1_init, Cond.instanceMethod yX1_init, Cond.code yX1_init cX1_init 3 none, Cond.methodLink RX1 1 objectInit, Cond.instanceMethod objectInit, Cond.code objectInit ⟨#[0xb1]⟩ 1 none, Cond.fieldLink RX1 7 "SpellTurner$Law" "ahead" "[B", Cond.fieldLink RX1 13 "SpellTurner$Law" "behind" "[B", Cond.fieldLink RX1 16 "SpellTurner$Law" "atStart" "Z", Cond.fieldLink RX1 20 "SpellTurner$Law" "atEnd" "Z", Cond.fieldLink RX1 23 "SpellTurner$Law" "first" "[B", Cond.fieldLink RX1 26 "SpellTurner$Law" "second" "[B", Cond.methodLink RX4 135 yX5_addLaw, Cond.instanceMethod yX5_addLaw, Cond.selects RX5 yX5_addLaw yX5_addLaw, Cond.initialized RX5, Cond.code yX5_addLaw cX5_addLaw 2 none, Cond.fieldLink RX5 21 "SpellTurner$Reform" "lawCount" "I", Cond.fieldLink RX5 17 "SpellTurner$Reform" "laws" "[LSpellTurner$Law;", Cond.methodLink RX4 139 yX4_readSide]
def wsX4_readLaw_r7 : List Cond := [Cond.instanceMethod yX4_readSide, Cond.selects RX4 yX4_readSide yX4_readSide, Cond.code yX4_readSide cX4_readSide 2 none, Cond.fieldLink RX4 143 "SpellTurner$Law" "atStart" "Z", Cond.fieldLink RX4 152 "SpellTurner$Law" "atEnd" "Z", Cond.fieldLink RX4 157 "SpellTurner$Law" "ahead" "[B", Cond.fieldLink RX4 162 "SpellTurner$Law" "behind" "[B", Cond.methodLink RX4 147 yX4_isNew, Cond.instanceMethod yX4_isNew, Cond.selects RX4 yX4_isNew yX4_isNew, Cond.code yX4_isNew cX4_isNew 2 (some .boolean)]
def wsX4_readLaw : List Cond := .code yX4_readLaw cX4_readLaw 5 none :: ((wsX4_readLaw_r1 ++ (wsX4_readLaw_r2 ++ (wsX4_readLaw_r3 ++ (wsX4_readLaw_r4 ++ (wsX4_readLaw_r5 ++ (wsX4_readLaw_r6 ++ wsX4_readLaw_r7)))))) ++ wsX50 ++ wsX10 ++ wsX40)
def wsX4_read_r1 : List Cond := [Cond.fieldLink RX4 18 "SpellTurner$Reader" "text" "[B", Cond.methodLink RX4 40 Lib.Math.min.name, Cond.static Lib.Math.min.name, Cond.initialized "java/lang/Math", Cond.code Lib.Math.min.name Lib.Math.min.code 2 (some .int), Cond.fieldLink RX4 22 "SpellTurner$Reader" "size" "I", Cond.fieldLink RX4 25 "SpellTurner$Reader" "at" "I", Cond.fieldLink RX4 9 "SpellTurner$Reader" "faultKind" "I", Cond.fieldLink RX4 15 "SpellTurner$Reader" "faultPlace" "I", Cond.fieldLink RX4 28 "SpellTurner$Reader" "token" "I", Cond.methodLink RX4 46 yX4_nextToken, Cond.instanceMethod yX4_nextToken, Cond.selects RX4 yX4_nextToken yX4_nextToken, Cond.initialized RX4, Cond.code yX4_nextToken cX4_nextToken 1 none, Cond.fieldLink RX4 31 "SpellTurner$Reader" "place" "I", Cond.fieldLink RX4 37 "SpellTurner$Reader" "length" "I", Cond.methodLink RX4 186 yX4_scanRun, Cond.instanceMethod yX4_scanRun, Cond.selects RX4 yX4_scanRun yX4_scanRun, Cond.code yX4_scanRun cX4_scanRun 2 none, Cond.fieldLink RX4 34 "SpellTurner$Reader" "start" "I", Cond.methodLink RX4 190 yX10_isSmall, Cond.static yX10_isSmall]
def wsX4_read_r2 : List Cond := [Cond.initialized RX10, Cond.code yX10_isSmall cX10_isSmall 1 (some .boolean), Cond.methodLink RX4 51 yX4_wordIs, Cond.instanceMethod yX4_wordIs, Cond.selects RX4 yX4_wordIs yX4_wordIs, Cond.code yX4_wordIs cX4_wordIs 3 (some .boolean), Cond.methodLink RX4 177 yJ0_length_8abf5, Cond.instanceMethod yJ0_length_8abf5, Cond.selects RJ0 yJ0_length_8abf5 yJ0_length_8abf5, Cond.initialized RJ0, Cond.code yJ0_length_8abf5 cJ0_length_8abf5 1 (some .int), Cond.fieldLink RJ0 9 "java/lang/String" "value" "[B", Cond.methodLink RJ0 335 yJ0_coder_7d493, Cond.instanceMethod yJ0_coder_7d493, Cond.selects RJ0 yJ0_coder_7d493 yJ0_coder_7d493, Cond.code yJ0_coder_7d493 cJ0_coder_7d493 1 (some .byte), Cond.fieldLink RJ0 38 "java/lang/String" "COMPACT_STRINGS" "Z", Cond.fieldLink RJ0 15 "java/lang/String" "coder" "B", Cond.methodLink RX4 182 yJ0_charAt_5068e, Cond.instanceMethod yJ0_charAt_5068e, Cond.selects RJ0 yJ0_charAt_5068e yJ0_charAt_5068e, Cond.code yJ0_charAt_5068e cJ0_charAt_5068e 2 (some .char), Cond.methodLink RJ0 492 yJ0_isLatin1_aae02, Cond.instanceMethod yJ0_isLatin1_aae02]
def wsX4_read_r3 : List Cond := [Cond.selects RJ0 yJ0_isLatin1_aae02 yJ0_isLatin1_aae02, Cond.code yJ0_isLatin1_aae02 cJ0_isLatin1_aae02 1 (some .boolean), Cond.methodLink RJ0 495 yJ1_charAt_3b067, Cond.static yJ1_charAt_3b067, Cond.initialized RJ1, Cond.code yJ1_charAt_3b067 cJ1_charAt_3b067 2 (some .char), Cond.methodLink RJ1 9 yJ0_checkIndex_df160, Cond.static yJ0_checkIndex_df160, Cond.code yJ0_checkIndex_df160 cJ0_checkIndex_df160 2 none, Cond.fieldLink RJ0 1053 "jdk/internal/util/Preconditions" "SIOOBE_FORMATTER" "Ljava/util/function/BiFunction;", Cond.methodLink RJ0 1059 yJ3_checkIndex_8e157, Cond.static yJ3_checkIndex_8e157, Cond.initialized RJ3, Cond.code yJ3_checkIndex_8e157 cJ3_checkIndex_8e157 3 (some .int), Cond.methodLink RJ0 498 yJ2_charAt_3b067, Cond.static yJ2_charAt_3b067, Cond.initialized RJ2, Cond.code yJ2_charAt_3b067 cJ2_charAt_3b067 2 (some .char), Cond.methodLink RJ2 67 yJ2_checkIndex_2214a, Cond.static yJ2_checkIndex_2214a, Cond.code yJ2_checkIndex_2214a cJ2_checkIndex_2214a 2 none, Cond.methodLink RJ2 48 yJ2_length_9d52b, Cond.static yJ2_length_9d52b, Cond.code yJ2_length_9d52b cJ2_length_9d52b 1 (some .int)]
def wsX4_read_r4 : List Cond := [Cond.methodLink RJ2 414 yJ0_checkIndex_df160, Cond.methodLink RJ2 71 yJ2_getChar_3b067, Cond.static yJ2_getChar_3b067, Cond.code yJ2_getChar_3b067 cJ2_getChar_3b067 2 (some .char), Cond.fieldLink RJ2 44 "java/lang/StringUTF16" "$assertionsDisabled" "Z", Cond.fieldLink RJ2 59 "java/lang/StringUTF16" "HI_BYTE_SHIFT" "I", Cond.fieldLink RJ2 63 "java/lang/StringUTF16" "LO_BYTE_SHIFT" "I", Cond.methodLink RX4 55 yX4_readKeep, Cond.instanceMethod yX4_readKeep, Cond.selects RX4 yX4_readKeep yX4_readKeep, Cond.code yX4_readKeep cX4_readKeep 2 none, Cond.fieldLink RX4 78 "SpellTurner$Reform" "entries" "LSpellTurner$WordRow;", Cond.methodLink RX4 84 yX10_isFull, Cond.instanceMethod yX10_isFull, Cond.selects RX10 yX10_isFull yX10_isFull, Cond.code yX10_isFull cX10_isFull 1 (some .boolean), Cond.fieldLink RX10 9 "SpellTurner$WordRow" "count" "I", Cond.fieldLink RX10 22 "SpellTurner$WordRow" "lengths" "[I", Cond.methodLink RX4 90 yX4_hasRoom, Cond.instanceMethod yX4_hasRoom, Cond.selects RX4 yX4_hasRoom yX4_hasRoom, Cond.code yX4_hasRoom cX4_hasRoom 2 (some .boolean), Cond.methodLink RX4 74 yX4_blame, Cond.instanceMethod yX4_blame]
def wsX4_read_r5 : List Cond := [Cond.selects RX4 yX4_blame yX4_blame, Cond.code yX4_blame cX4_blame 2 (some .boolean), Cond.methodLink RX4 94 yX4_takeNew, Cond.instanceMethod yX4_takeNew, Cond.selects RX4 yX4_takeNew yX4_takeNew, Cond.code yX4_takeNew cX4_takeNew 2 (some .boolean), Cond.methodLink RX4 111 yX4_takeLetters, Cond.instanceMethod yX4_takeLetters, Cond.selects RX4 yX4_takeLetters yX4_takeLetters, Cond.code yX4_takeLetters cX4_takeLetters 2 (some .boolean), Cond.methodLink RX4 165 yX10_find, Cond.instanceMethod yX10_find, Cond.selects RX10 yX10_find yX10_find, Cond.code yX10_find cX10_find 5 (some .int), Cond.fieldLink RX10 18 "SpellTurner$WordRow" "letters" "[B", Cond.fieldLink RX10 15 "SpellTurner$WordRow" "width" "I", Cond.methodLink RX10 44 yX10_same, Cond.static yX10_same, Cond.code yX10_same cX10_same 6 (some .boolean), Cond.methodLink RX4 147 yX4_isNew, Cond.instanceMethod yX4_isNew, Cond.selects RX4 yX4_isNew yX4_isNew, Cond.code yX4_isNew cX4_isNew 2 (some .boolean), Cond.methodLink RX4 98 yX5_addKept]
def wsX4_read_r6 : List Cond := [Cond.instanceMethod yX5_addKept, Cond.selects RX5 yX5_addKept yX5_addKept, Cond.initialized RX5, Cond.code yX5_addKept cX5_addKept 4 none, Cond.fieldLink RX5 36 "SpellTurner$Reform" "becomes" "LSpellTurner$WordRow;", Cond.methodLink RX5 59 yX5_addEntry, Cond.instanceMethod yX5_addEntry, Cond.selects RX5 yX5_addEntry yX5_addEntry, Cond.code yX5_addEntry cX5_addEntry 5 none, Cond.fieldLink RX5 33 "SpellTurner$Reform" "entries" "LSpellTurner$WordRow;", Cond.fieldLink RX5 39 "SpellTurner$Reform" "kept" "[Z", Cond.fieldLink RX5 56 "SpellTurner$WordRow" "count" "I", Cond.fieldLink RX5 43 "SpellTurner$Reform" "keptCount" "I", Cond.methodLink RX5 67 yX10_isFull, Cond.methodLink RX5 63 yX10_add, Cond.instanceMethod yX10_add, Cond.selects RX10 yX10_add yX10_add, Cond.code yX10_add cX10_add 4 none, Cond.methodLink RX10 30 arraycopyName, Cond.native arraycopyName, Cond.static arraycopyName, Cond.initialized "java/lang/System", Cond.methodLink RX10 26 yX10_isFull, Cond.methodLink RX4 102 yX4_takeClose]
def wsX4_read_r7 : List Cond := [Cond.instanceMethod yX4_takeClose, Cond.selects RX4 yX4_takeClose yX4_takeClose, Cond.code yX4_takeClose cX4_takeClose 1 (some .boolean), Cond.methodLink RX4 61 yX4_readList, Cond.instanceMethod yX4_readList, Cond.selects RX4 yX4_readList yX4_readList, Cond.code yX4_readList cX4_readList 2 none, Cond.fieldLink RX4 114 "SpellTurner$Reform" "becomes" "LSpellTurner$WordRow;", Cond.methodLink RX4 105 yX5_addListed, Cond.instanceMethod yX5_addListed, Cond.selects RX5 yX5_addListed yX5_addListed, Cond.code yX5_addListed cX5_addListed 4 none, Cond.methodLink RX4 108 yX4_takeTo, Cond.instanceMethod yX4_takeTo, Cond.selects RX4 yX4_takeTo yX4_takeTo, Cond.code yX4_takeTo cX4_takeTo 1 (some .boolean), Cond.methodLink RX4 117 yX10_add, Cond.methodLink RX4 66 yX4_readPart, Cond.instanceMethod yX4_readPart, Cond.selects RX4 yX4_readPart yX4_readPart, Cond.code yX4_readPart cX4_readPart 2 none, Cond.fieldLink RX4 120 "SpellTurner$Reform" "parts" "LSpellTurner$WordRow;", Cond.methodLink RX4 71 yX4_readLaw, Cond.instanceMethod yX4_readLaw]
def wsX4_read_r8 : List Cond := [Cond.selects RX4 yX4_readLaw yX4_readLaw, Cond.code yX4_readLaw cX4_readLaw 5 none, Cond.fieldLink RX4 123 "SpellTurner$Reform" "lawCount" "I", Cond.classLink RX4 130 RX1, Cond.instantiable RX1 6, Cond.initialized RX1, Cond.methodLink RX4 126 yX4_letters, Cond.instanceMethod yX4_letters, Cond.selects RX4 yX4_letters yX4_letters, Cond.code yX4_letters cX4_letters 1 (some (.array .byte)), Cond.methodLink RX4 171 yJ7_copyOfRange_39247, Cond.static yJ7_copyOfRange_39247, Cond.initialized RJ7, Cond.code yJ7_copyOfRange_39247 cJ7_copyOfRange_39247 3 (some (.array .byte)), Cond.methodLink RJ7 310 ⟨"[B", "clone", "()Ljava/lang/Object;"⟩, Cond.sameMethod "[B" "java/lang/Object" "clone" "()Ljava/lang/Object;", Cond.native ⟨"java/lang/Object", "clone", "()Ljava/lang/Object;"⟩, Cond.instanceMethod ⟨"java/lang/Object", "clone", "()Ljava/lang/Object;"⟩, Cond.selects "[B" ⟨"[B", "clone", "()Ljava/lang/Object;"⟩ ⟨"java/lang/Object", "clone", "()Ljava/lang/Object;"⟩, Cond.classLink RJ7 311 "[B", Cond.methodLink RJ7 339 yJ7_copyOfRangeByte_39247, Cond.static yJ7_copyOfRangeByte_39247, Cond.code yJ7_copyOfRangeByte_39247 cJ7_copyOfRangeByte_39247 5 (some (.array .byte)), Cond.arrayClass .byte]
def wsX4_read_r9 : List Cond := [Cond.methodLink RJ7 304 Lib.Math.min.name, Cond.methodLink RJ7 150 arraycopyName, Cond.methodLink RJ7 343 yJ7_checkLength_df160, Cond.static yJ7_checkLength_df160, Cond.code yJ7_checkLength_df160 cJ7_checkLength_df160 2 none, Cond.methodLink RX4 132 yX1_init, Cond.instanceMethod yX1_init, Cond.code yX1_init cX1_init 3 none, Cond.methodLink RX1 1 objectInit, Cond.instanceMethod objectInit, Cond.code objectInit ⟨#[0xb1]⟩ 1 none, Cond.fieldLink RX1 7 "SpellTurner$Law" "ahead" "[B", Cond.fieldLink RX1 13 "SpellTurner$Law" "behind" "[B", Cond.fieldLink RX1 16 "SpellTurner$Law" "atStart" "Z", Cond.fieldLink RX1 20 "SpellTurner$Law" "atEnd" "Z", Cond.fieldLink RX1 23 "SpellTurner$Law" "first" "[B", Cond.fieldLink RX1 26 "SpellTurner$Law" "second" "[B", Cond.methodLink RX4 135 yX5_addLaw, Cond.instanceMethod yX5_addLaw, Cond.selects RX5 yX5_addLaw yX5_addLaw, Cond.code yX5_addLaw cX5_addLaw 2 none, Cond.fieldLink RX5 21 "SpellTurner$Reform" "lawCount" "I", Cond.fieldLink RX5 17 "SpellTurner$Reform" "laws" "[LSpellTurner$Law;", Cond.methodLink RX4 139 yX4_readSide]
def wsX4_read_r10 : List Cond := [Cond.instanceMethod yX4_readSide, Cond.selects RX4 yX4_readSide yX4_readSide, Cond.code yX4_readSide cX4_readSide 2 none, Cond.fieldLink RX4 143 "SpellTurner$Law" "atStart" "Z", Cond.fieldLink RX4 152 "SpellTurner$Law" "atEnd" "Z", Cond.fieldLink RX4 157 "SpellTurner$Law" "ahead" "[B", Cond.fieldLink RX4 162 "SpellTurner$Law" "behind" "[B"]
def wsX4_read : List Cond := .code yX4_read cX4_read 5 none :: ((wsX4_read_r1 ++ (wsX4_read_r2 ++ (wsX4_read_r3 ++ (wsX4_read_r4 ++ (wsX4_read_r5 ++ (wsX4_read_r6 ++ (wsX4_read_r7 ++ (wsX4_read_r8 ++ (wsX4_read_r9 ++ wsX4_read_r10))))))))) ++ wsX40 ++ wsX50 ++ wsX100 ++ wsX10)
def wsX5_init_r1 : List Cond := [Cond.methodLink RX5 3 objectInit, Cond.instanceMethod objectInit, Cond.code objectInit ⟨#[0xb1]⟩ 1 none, Cond.fieldLink RX5 9 "SpellTurner$Reform" "day" "I", Cond.classLink RX5 15 RX1, Cond.fieldLink RX5 17 "SpellTurner$Reform" "laws" "[LSpellTurner$Law;", Cond.fieldLink RX5 21 "SpellTurner$Reform" "lawCount" "I", Cond.classLink RX5 24 RX10, Cond.instantiable RX10 4, Cond.initialized RX10, Cond.fieldLink RX5 29 "SpellTurner$Reform" "parts" "LSpellTurner$WordRow;", Cond.fieldLink RX5 33 "SpellTurner$Reform" "entries" "LSpellTurner$WordRow;", Cond.fieldLink RX5 36 "SpellTurner$Reform" "becomes" "LSpellTurner$WordRow;", Cond.arrayClass .boolean, Cond.fieldLink RX5 39 "SpellTurner$Reform" "kept" "[Z", Cond.fieldLink RX5 43 "SpellTurner$Reform" "keptCount" "I", Cond.fieldLink RX5 46 "SpellTurner$Reform" "turnedParts" "LSpellTurner$WordRow;", Cond.fieldLink RX5 49 "SpellTurner$Reform" "partHolds" "[Z", Cond.arrayClass .long, Cond.fieldLink RX5 52 "SpellTurner$Reform" "partUses" "[J", Cond.methodLink RX5 26 yX10_init, Cond.instanceMethod yX10_init, Cond.code yX10_init cX10_init 3 none, Cond.methodLink RX10 3 objectInit]
def wsX5_init_r2 : List Cond := [Cond.fieldLink RX10 9 "SpellTurner$WordRow" "count" "I", Cond.fieldLink RX10 15 "SpellTurner$WordRow" "width" "I", Cond.arrayClass .byte, Cond.fieldLink RX10 18 "SpellTurner$WordRow" "letters" "[B", Cond.arrayClass .int, Cond.fieldLink RX10 22 "SpellTurner$WordRow" "lengths" "[I"]
def wsX5_init : List Cond := .code yX5_init cX5_init 1 none :: ((wsX5_init_r1 ++ wsX5_init_r2) ++ wsX50 ++ wsX100)
def wsX5_clear : List Cond := .code yX5_clear cX5_clear 2 none :: ([.fieldLink RX5 9 "SpellTurner$Reform" "day" "I", .fieldLink RX5 21 "SpellTurner$Reform" "lawCount" "I", .fieldLink RX5 29 "SpellTurner$Reform" "parts" "LSpellTurner$WordRow;", .fieldLink RX5 56 "SpellTurner$WordRow" "count" "I", .fieldLink RX5 33 "SpellTurner$Reform" "entries" "LSpellTurner$WordRow;", .fieldLink RX5 36 "SpellTurner$Reform" "becomes" "LSpellTurner$WordRow;", .fieldLink RX5 43 "SpellTurner$Reform" "keptCount" "I", .fieldLink RX5 46 "SpellTurner$Reform" "turnedParts" "LSpellTurner$WordRow;"] ++ wsX50 ++ wsX100)
def wsX6_init : List Cond := .code yX6_init cX6_init 1 none :: ([.methodLink RX6 3 objectInit, .instanceMethod objectInit, .code objectInit ⟨#[0xb1]⟩ 1 none, .arrayClass .byte, .fieldLink RX6 9 "SpellTurner$Scribe" "told" "[B", .fieldLink RX6 15 "SpellTurner$Scribe" "page" "[B", .arrayClass .int, .fieldLink RX6 18 "SpellTurner$Scribe" "toldTally" "[I", .fieldLink RX6 22 "SpellTurner$Scribe" "tally" "[I", .fieldLink RX6 25 "SpellTurner$Scribe" "hasTold" "Z", .fieldLink RX6 29 "SpellTurner$Scribe" "toldSize" "I", .fieldLink RX6 33 "SpellTurner$Scribe" "size" "I", .fieldLink RX6 36 "SpellTurner$Scribe" "copied" "I", .fieldLink RX6 39 "SpellTurner$Scribe" "fits" "Z"] ++ wsX60)
def wsX6_begin : List Cond := .code yX6_begin cX6_begin 1 none :: ([.fieldLink RX6 22 "SpellTurner$Scribe" "tally" "[I", .fieldLink RX6 33 "SpellTurner$Scribe" "size" "I", .fieldLink RX6 36 "SpellTurner$Scribe" "copied" "I", .fieldLink RX6 39 "SpellTurner$Scribe" "fits" "Z", .methodLink RX6 42 yJ7_fill_53178, .static yJ7_fill_53178, .initialized RJ7, .code yJ7_fill_53178 cJ7_fill_53178 4 none] ++ wsX60)
def wsX6_leaveName : List Cond := .code yX6_leaveName cX6_leaveName 1 none :: ([.fieldLink RX6 22 "SpellTurner$Scribe" "tally" "[I"] ++ wsX60)
def wsX6_leaveLost : List Cond := .code yX6_leaveLost cX6_leaveLost 1 none :: ([.fieldLink RX6 22 "SpellTurner$Scribe" "tally" "[I"] ++ wsX60)
def wsX6_append : List Cond := .code yX6_append cX6_append 4 none :: ([.fieldLink RX6 39 "SpellTurner$Scribe" "fits" "Z", .fieldLink RX6 33 "SpellTurner$Scribe" "size" "I", .fieldLink RX6 15 "SpellTurner$Scribe" "page" "[B", .methodLink RX6 81 arraycopyName, .native arraycopyName, .static arraycopyName, .initialized "java/lang/System"] ++ wsX60)
def wsX6_put_r1 : List Cond := [Cond.fieldLink RX6 48 "SpellTurner$WordRow" "count" "I", Cond.fieldLink RX6 22 "SpellTurner$Scribe" "tally" "[I", Cond.fieldLink RX6 56 "SpellTurner$WordRow" "lengths" "[I", Cond.fieldLink RX6 59 "SpellTurner$TextWords" "length" "I", Cond.fieldLink RX6 64 "SpellTurner$TextWords" "text" "[B", Cond.fieldLink RX6 67 "SpellTurner$TextWords" "start" "I", Cond.fieldLink RX6 36 "SpellTurner$Scribe" "copied" "I", Cond.fieldLink RX6 78 "SpellTurner$WordRow" "letters" "[B", Cond.methodLink RX6 53 yX6_leaveLost, Cond.instanceMethod yX6_leaveLost, Cond.selects RX6 yX6_leaveLost yX6_leaveLost, Cond.initialized RX6, Cond.code yX6_leaveLost cX6_leaveLost 1 none, Cond.methodLink RX6 70 yX10_standsIn, Cond.instanceMethod yX10_standsIn, Cond.selects RX10 yX10_standsIn yX10_standsIn, Cond.initialized RX10, Cond.code yX10_standsIn cX10_standsIn 4 (some .boolean), Cond.fieldLink RX10 18 "SpellTurner$WordRow" "letters" "[B", Cond.fieldLink RX10 15 "SpellTurner$WordRow" "width" "I", Cond.fieldLink RX10 22 "SpellTurner$WordRow" "lengths" "[I", Cond.methodLink RX10 44 yX10_same, Cond.static yX10_same, Cond.code yX10_same cX10_same 6 (some .boolean)]
def wsX6_put_r2 : List Cond := [Cond.methodLink RX6 74 yX6_append, Cond.instanceMethod yX6_append, Cond.selects RX6 yX6_append yX6_append, Cond.code yX6_append cX6_append 4 none, Cond.fieldLink RX6 39 "SpellTurner$Scribe" "fits" "Z", Cond.fieldLink RX6 33 "SpellTurner$Scribe" "size" "I", Cond.fieldLink RX6 15 "SpellTurner$Scribe" "page" "[B", Cond.methodLink RX6 81 arraycopyName, Cond.native arraycopyName, Cond.static arraycopyName, Cond.initialized "java/lang/System"]
def wsX6_put : List Cond := .code yX6_put cX6_put 3 none :: ((wsX6_put_r1 ++ wsX6_put_r2) ++ wsX100 ++ wsX60 ++ wsX80)
def wsX6_finish : List Cond := .code yX6_finish cX6_finish 5 (some .int) :: ([.fieldLink RX6 36 "SpellTurner$Scribe" "copied" "I", .fieldLink RX6 39 "SpellTurner$Scribe" "fits" "Z", .fieldLink RX6 9 "SpellTurner$Scribe" "told" "[B", .fieldLink RX6 15 "SpellTurner$Scribe" "page" "[B", .fieldLink RX6 18 "SpellTurner$Scribe" "toldTally" "[I", .fieldLink RX6 22 "SpellTurner$Scribe" "tally" "[I", .fieldLink RX6 25 "SpellTurner$Scribe" "hasTold" "Z", .fieldLink RX6 33 "SpellTurner$Scribe" "size" "I", .fieldLink RX6 29 "SpellTurner$Scribe" "toldSize" "I", .methodLink RX6 74 yX6_append, .instanceMethod yX6_append, .selects RX6 yX6_append yX6_append, .initialized RX6, .code yX6_append cX6_append 4 none, .methodLink RX6 81 arraycopyName, .native arraycopyName, .static arraycopyName, .initialized "java/lang/System"] ++ wsX60)
def wsX6_byteAt : List Cond := .code yX6_byteAt cX6_byteAt 2 (some .int) :: ([.fieldLink RX6 29 "SpellTurner$Scribe" "toldSize" "I", .fieldLink RX6 9 "SpellTurner$Scribe" "told" "[B"] ++ wsX60)
def wsX6_tallyOf : List Cond := .code yX6_tallyOf cX6_tallyOf 2 (some .int) :: ([.fieldLink RX6 25 "SpellTurner$Scribe" "hasTold" "Z", .fieldLink RX6 18 "SpellTurner$Scribe" "toldTally" "[I"] ++ wsX60)
def wsX7_init : List Cond := .code yX7_init cX7_init 1 none :: ([.methodLink RX7 3 objectInit, .instanceMethod objectInit, .code objectInit ⟨#[0xb1]⟩ 1 none, .arrayClass .byte, .fieldLink RX7 9 "SpellTurner$Tape" "bytes" "[B", .fieldLink RX7 15 "SpellTurner$Tape" "length" "I"] ++ wsX70)
def wsX7_append : List Cond := .code yX7_append cX7_append 3 none :: ([.fieldLink RX7 15 "SpellTurner$Tape" "length" "I", .fieldLink RX7 9 "SpellTurner$Tape" "bytes" "[B"] ++ wsX70)
def wsX7_take : List Cond := .code yX7_take cX7_take 2 (some .int) :: ([.fieldLink RX7 15 "SpellTurner$Tape" "length" "I"] ++ wsX70)
def wsX7_isWord : List Cond := .code yX7_isWord cX7_isWord 3 (some .boolean) :: ([.fieldLink RX7 9 "SpellTurner$Tape" "bytes" "[B", .methodLink RX7 19 yX10_isSmall, .static yX10_isSmall, .initialized RX10, .code yX10_isSmall cX10_isSmall 1 (some .boolean)] ++ wsX70)
def wsX7_occurrences : List Cond := .code yX7_occurrences cX7_occurrences 5 (some .int) :: ([.fieldLink RX7 9 "SpellTurner$Tape" "bytes" "[B"] ++ wsX70)
def wsX7_hasZero : List Cond := .code yX7_hasZero cX7_hasZero 2 (some .boolean) :: ([.methodLink RX7 25 yX7_occurrences, .instanceMethod yX7_occurrences, .selects RX7 yX7_occurrences yX7_occurrences, .initialized RX7, .code yX7_occurrences cX7_occurrences 5 (some .int), .fieldLink RX7 9 "SpellTurner$Tape" "bytes" "[B"] ++ wsX70)
def wsX7_lines : List Cond := .code yX7_lines cX7_lines 2 (some .int) :: ([.methodLink RX7 25 yX7_occurrences, .instanceMethod yX7_occurrences, .selects RX7 yX7_occurrences yX7_occurrences, .initialized RX7, .code yX7_occurrences cX7_occurrences 5 (some .int), .fieldLink RX7 9 "SpellTurner$Tape" "bytes" "[B"] ++ wsX70)
def wsX8_init : List Cond := .code yX8_init cX8_init 1 none :: ([.methodLink RX8 3 objectInit, .instanceMethod objectInit, .code objectInit ⟨#[0xb1]⟩ 1 none, .fieldLink RX8 9 "SpellTurner$TextWords" "start" "I", .fieldLink RX8 15 "SpellTurner$TextWords" "length" "I", .fieldLink RX8 18 "SpellTurner$TextWords" "lineNumber" "I", .fieldLink RX8 21 "SpellTurner$TextWords" "isName" "Z", .arrayClass .byte, .fieldLink RX8 25 "SpellTurner$TextWords" "text" "[B", .fieldLink RX8 29 "SpellTurner$TextWords" "size" "I", .fieldLink RX8 32 "SpellTurner$TextWords" "at" "I", .fieldLink RX8 35 "SpellTurner$TextWords" "quoted" "Z"] ++ wsX80)
def wsX8_begin : List Cond := .code yX8_begin cX8_begin 3 none :: ([.fieldLink RX8 25 "SpellTurner$TextWords" "text" "[B", .methodLink RX8 38 Lib.Math.min.name, .static Lib.Math.min.name, .initialized "java/lang/Math", .code Lib.Math.min.name Lib.Math.min.code 2 (some .int), .fieldLink RX8 29 "SpellTurner$TextWords" "size" "I", .fieldLink RX8 32 "SpellTurner$TextWords" "at" "I", .fieldLink RX8 18 "SpellTurner$TextWords" "lineNumber" "I", .fieldLink RX8 35 "SpellTurner$TextWords" "quoted" "Z"] ++ wsX80)
def wsX10_isCapital : List Cond := .code yX10_isCapital cX10_isCapital 1 (some .boolean) :: ([])
def wsX8_isLetter : List Cond := .code yX8_isLetter cX8_isLetter 1 (some .boolean) :: ([.methodLink RX8 56 yX10_isSmall, .static yX10_isSmall, .initialized RX10, .code yX10_isSmall cX10_isSmall 1 (some .boolean), .methodLink RX8 51 yX10_isCapital, .static yX10_isCapital, .code yX10_isCapital cX10_isCapital 1 (some .boolean)])
def wsX8_takeWord : List Cond := .code yX8_takeWord cX8_takeWord 1 none :: ([.fieldLink RX8 32 "SpellTurner$TextWords" "at" "I", .fieldLink RX8 9 "SpellTurner$TextWords" "start" "I", .fieldLink RX8 21 "SpellTurner$TextWords" "isName" "Z", .fieldLink RX8 29 "SpellTurner$TextWords" "size" "I", .fieldLink RX8 25 "SpellTurner$TextWords" "text" "[B", .fieldLink RX8 15 "SpellTurner$TextWords" "length" "I", .methodLink RX8 44 yX8_isLetter, .static yX8_isLetter, .initialized RX8, .code yX8_isLetter cX8_isLetter 1 (some .boolean), .methodLink RX8 56 yX10_isSmall, .static yX10_isSmall, .initialized RX10, .code yX10_isSmall cX10_isSmall 1 (some .boolean), .methodLink RX8 51 yX10_isCapital, .static yX10_isCapital, .code yX10_isCapital cX10_isCapital 1 (some .boolean)] ++ wsX80)
def wsX8_next : List Cond := .code yX8_next cX8_next 2 (some .boolean) :: ([.fieldLink RX8 32 "SpellTurner$TextWords" "at" "I", .fieldLink RX8 29 "SpellTurner$TextWords" "size" "I", .fieldLink RX8 25 "SpellTurner$TextWords" "text" "[B", .fieldLink RX8 18 "SpellTurner$TextWords" "lineNumber" "I", .fieldLink RX8 35 "SpellTurner$TextWords" "quoted" "Z", .methodLink RX8 44 yX8_isLetter, .static yX8_isLetter, .initialized RX8, .code yX8_isLetter cX8_isLetter 1 (some .boolean), .methodLink RX8 56 yX10_isSmall, .static yX10_isSmall, .initialized RX10, .code yX10_isSmall cX10_isSmall 1 (some .boolean), .methodLink RX8 51 yX10_isCapital, .static yX10_isCapital, .code yX10_isCapital cX10_isCapital 1 (some .boolean), .methodLink RX8 48 yX8_takeWord, .instanceMethod yX8_takeWord, .selects RX8 yX8_takeWord yX8_takeWord, .code yX8_takeWord cX8_takeWord 1 none, .fieldLink RX8 9 "SpellTurner$TextWords" "start" "I", .fieldLink RX8 21 "SpellTurner$TextWords" "isName" "Z", .fieldLink RX8 15 "SpellTurner$TextWords" "length" "I"] ++ wsX80)
def wsX9_init_r1 : List Cond := [Cond.methodLink RX9 3 objectInit, Cond.instanceMethod objectInit, Cond.code objectInit ⟨#[0xb1]⟩ 1 none, Cond.classLink RX9 9 RX3, Cond.instantiable RX3 7, Cond.initialized RX3, Cond.fieldLink RX9 12 "SpellTurner$Turner" "partings" "LSpellTurner$Partings;", Cond.arrayClass .byte, Cond.fieldLink RX9 18 "SpellTurner$Turner" "now" "[B", Cond.fieldLink RX9 22 "SpellTurner$Turner" "next" "[B", Cond.fieldLink RX9 25 "SpellTurner$Turner" "length" "I", Cond.fieldLink RX9 29 "SpellTurner$Turner" "used" "J", Cond.fieldLink RX9 33 "SpellTurner$Turner" "whole" "[B", Cond.classLink RX9 36 RX10, Cond.instantiable RX10 4, Cond.initialized RX10, Cond.fieldLink RX9 41 "SpellTurner$Turner" "ahead" "LSpellTurner$WordRow;", Cond.fieldLink RX9 45 "SpellTurner$Turner" "behind" "LSpellTurner$WordRow;", Cond.instanceMethod yX3_init, Cond.code yX3_init cX3_init 1 none, Cond.methodLink RX3 3 objectInit, Cond.fieldLink RX3 9 "SpellTurner$Partings" "count" "I", Cond.arrayClass .int, Cond.fieldLink RX3 15 "SpellTurner$Partings" "sizes" "[I"]
def wsX9_init_r2 : List Cond := [Cond.fieldLink RX3 19 "SpellTurner$Partings" "picks" "[B", Cond.fieldLink RX3 23 "SpellTurner$Partings" "fitting" "[B", Cond.arrayClass .boolean, Cond.fieldLink RX3 26 "SpellTurner$Partings" "closes" "[Z", Cond.fieldLink RX3 30 "SpellTurner$Partings" "path" "[B", Cond.classLink RX3 33 RX10, Cond.fieldLink RX3 38 "SpellTurner$Partings" "parts" "LSpellTurner$WordRow;", Cond.methodLink RX3 35 yX10_init, Cond.instanceMethod yX10_init, Cond.code yX10_init cX10_init 3 none, Cond.methodLink RX10 3 objectInit, Cond.fieldLink RX10 9 "SpellTurner$WordRow" "count" "I", Cond.fieldLink RX10 15 "SpellTurner$WordRow" "width" "I", Cond.fieldLink RX10 18 "SpellTurner$WordRow" "letters" "[B", Cond.fieldLink RX10 22 "SpellTurner$WordRow" "lengths" "[I", Cond.methodLink RX9 38 yX10_init]
def wsX9_init : List Cond := .code yX9_init cX9_init 1 none :: ((wsX9_init_r1 ++ wsX9_init_r2) ++ wsX30 ++ wsX90 ++ wsX100)
def wsX9_turnParts_r1 : List Cond := [Cond.fieldLink RX9 48 "SpellTurner$Reform" "parts" "LSpellTurner$WordRow;", Cond.fieldLink RX9 53 "SpellTurner$WordRow" "count" "I", Cond.fieldLink RX9 56 "SpellTurner$WordRow" "letters" "[B", Cond.fieldLink RX9 59 "SpellTurner$WordRow" "width" "I", Cond.fieldLink RX9 62 "SpellTurner$WordRow" "lengths" "[I", Cond.fieldLink RX9 70 "SpellTurner$Reform" "partHolds" "[Z", Cond.fieldLink RX9 74 "SpellTurner$Reform" "partUses" "[J", Cond.fieldLink RX9 29 "SpellTurner$Turner" "used" "J", Cond.fieldLink RX9 78 "SpellTurner$Reform" "turnedParts" "LSpellTurner$WordRow;", Cond.fieldLink RX9 18 "SpellTurner$Turner" "now" "[B", Cond.fieldLink RX9 25 "SpellTurner$Turner" "length" "I", Cond.methodLink RX9 66 yX9_runLaws, Cond.instanceMethod yX9_runLaws, Cond.selects RX9 yX9_runLaws yX9_runLaws, Cond.initialized RX9, Cond.code yX9_runLaws cX9_runLaws 7 (some .boolean), Cond.methodLink RX9 140 Lib.Math.min.name, Cond.static Lib.Math.min.name, Cond.initialized "java/lang/Math", Cond.code Lib.Math.min.name Lib.Math.min.code 2 (some .int), Cond.methodLink RX9 134 arraycopyName, Cond.native arraycopyName, Cond.static arraycopyName, Cond.initialized "java/lang/System"]
def wsX9_turnParts_r2 : List Cond := [Cond.fieldLink RX9 143 "SpellTurner$Reform" "lawCount" "I", Cond.fieldLink RX9 146 "SpellTurner$Reform" "laws" "[LSpellTurner$Law;", Cond.methodLink RX9 150 yX9_apply, Cond.instanceMethod yX9_apply, Cond.selects RX9 yX9_apply yX9_apply, Cond.code yX9_apply cX9_apply 5 (some .boolean), Cond.fieldLink RX9 22 "SpellTurner$Turner" "next" "[B", Cond.fieldLink RX9 160 "SpellTurner$Law" "second" "[B", Cond.fieldLink RX9 163 "SpellTurner$Law" "first" "[B", Cond.methodLink RX9 88 Lib.Math.max.name, Cond.static Lib.Math.max.name, Cond.code Lib.Math.max.name Lib.Math.max.code 2 (some .int), Cond.methodLink RX9 154 yX1_standsAt, Cond.instanceMethod yX1_standsAt, Cond.selects RX1 yX1_standsAt yX1_standsAt, Cond.initialized RX1, Cond.code yX1_standsAt cX1_standsAt 7 (some .boolean), Cond.fieldLink RX1 23 "SpellTurner$Law" "first" "[B", Cond.fieldLink RX1 16 "SpellTurner$Law" "atStart" "Z", Cond.fieldLink RX1 20 "SpellTurner$Law" "atEnd" "Z", Cond.fieldLink RX1 7 "SpellTurner$Law" "ahead" "[B", Cond.fieldLink RX1 13 "SpellTurner$Law" "behind" "[B", Cond.methodLink RX1 29 yX10_same, Cond.static yX10_same]
def wsX9_turnParts_r3 : List Cond := [Cond.initialized RX10, Cond.code yX10_same cX10_same 6 (some .boolean), Cond.methodLink RX9 81 yX10_add, Cond.instanceMethod yX10_add, Cond.selects RX10 yX10_add yX10_add, Cond.code yX10_add cX10_add 4 none, Cond.fieldLink RX10 15 "SpellTurner$WordRow" "width" "I", Cond.fieldLink RX10 18 "SpellTurner$WordRow" "letters" "[B", Cond.fieldLink RX10 9 "SpellTurner$WordRow" "count" "I", Cond.methodLink RX10 30 arraycopyName, Cond.fieldLink RX10 22 "SpellTurner$WordRow" "lengths" "[I", Cond.methodLink RX10 26 yX10_isFull, Cond.instanceMethod yX10_isFull, Cond.selects RX10 yX10_isFull yX10_isFull, Cond.code yX10_isFull cX10_isFull 1 (some .boolean)]
def wsX9_turnParts : List Cond := .code yX9_turnParts cX9_turnParts 5 none :: ((wsX9_turnParts_r1 ++ (wsX9_turnParts_r2 ++ wsX9_turnParts_r3)) ++ wsX50 ++ wsX100 ++ wsX90 ++ wsX10)
def wsX9_through_r1 : List Cond := [Cond.fieldLink RX9 45 "SpellTurner$Turner" "behind" "LSpellTurner$WordRow;", Cond.fieldLink RX9 53 "SpellTurner$WordRow" "count" "I", Cond.methodLink RX9 88 Lib.Math.max.name, Cond.static Lib.Math.max.name, Cond.initialized "java/lang/Math", Cond.code Lib.Math.max.name Lib.Math.max.code 2 (some .int), Cond.fieldLink RX9 41 "SpellTurner$Turner" "ahead" "LSpellTurner$WordRow;", Cond.methodLink RX9 85 yX10_addForm, Cond.instanceMethod yX10_addForm, Cond.selects RX10 yX10_addForm yX10_addForm, Cond.initialized RX10, Cond.code yX10_addForm cX10_addForm 4 none, Cond.methodLink RX10 36 yX10_find, Cond.instanceMethod yX10_find, Cond.selects RX10 yX10_find yX10_find, Cond.code yX10_find cX10_find 5 (some .int), Cond.fieldLink RX10 9 "SpellTurner$WordRow" "count" "I", Cond.fieldLink RX10 22 "SpellTurner$WordRow" "lengths" "[I", Cond.fieldLink RX10 18 "SpellTurner$WordRow" "letters" "[B", Cond.fieldLink RX10 15 "SpellTurner$WordRow" "width" "I", Cond.methodLink RX10 44 yX10_same, Cond.static yX10_same, Cond.code yX10_same cX10_same 6 (some .boolean), Cond.methodLink RX10 40 yX10_add]
def wsX9_through_r2 : List Cond := [Cond.instanceMethod yX10_add, Cond.selects RX10 yX10_add yX10_add, Cond.code yX10_add cX10_add 4 none, Cond.methodLink RX10 30 arraycopyName, Cond.native arraycopyName, Cond.static arraycopyName, Cond.initialized "java/lang/System", Cond.methodLink RX10 26 yX10_isFull, Cond.instanceMethod yX10_isFull, Cond.selects RX10 yX10_isFull yX10_isFull, Cond.code yX10_isFull cX10_isFull 1 (some .boolean), Cond.methodLink RX9 94 yX9_turnForms, Cond.instanceMethod yX9_turnForms, Cond.selects RX9 yX9_turnForms yX9_turnForms, Cond.initialized RX9, Cond.code yX9_turnForms cX9_turnForms 7 (some .long), Cond.methodLink RX9 98 yX9_turnWord, Cond.instanceMethod yX9_turnWord, Cond.selects RX9 yX9_turnWord yX9_turnWord, Cond.code yX9_turnWord cX9_turnWord 11 (some .long), Cond.fieldLink RX9 59 "SpellTurner$WordRow" "width" "I", Cond.fieldLink RX9 62 "SpellTurner$WordRow" "lengths" "[I", Cond.fieldLink RX9 102 "SpellTurner$Reform" "entries" "LSpellTurner$WordRow;", Cond.fieldLink RX9 56 "SpellTurner$WordRow" "letters" "[B"]
def wsX9_through_r3 : List Cond := [Cond.fieldLink RX9 12 "SpellTurner$Turner" "partings" "LSpellTurner$Partings;", Cond.fieldLink RX9 48 "SpellTurner$Reform" "parts" "LSpellTurner$WordRow;", Cond.fieldLink RX9 116 "SpellTurner$Partings" "count" "I", Cond.fieldLink RX9 18 "SpellTurner$Turner" "now" "[B", Cond.fieldLink RX9 25 "SpellTurner$Turner" "length" "I", Cond.fieldLink RX9 29 "SpellTurner$Turner" "used" "J", Cond.methodLink RX9 105 yX10_find, Cond.methodLink RX9 109 yX9_addEntry, Cond.instanceMethod yX9_addEntry, Cond.selects RX9 yX9_addEntry yX9_addEntry, Cond.code yX9_addEntry cX9_addEntry 5 none, Cond.fieldLink RX9 125 "SpellTurner$Reform" "becomes" "LSpellTurner$WordRow;", Cond.methodLink RX9 121 yX5_isKept, Cond.instanceMethod yX5_isKept, Cond.selects RX5 yX5_isKept yX5_isKept, Cond.initialized RX5, Cond.code yX5_isKept cX5_isKept 2 (some .boolean), Cond.fieldLink RX5 39 "SpellTurner$Reform" "kept" "[Z", Cond.methodLink RX9 113 yX3_find, Cond.instanceMethod yX3_find, Cond.selects RX3 yX3_find yX3_find, Cond.initialized RX3, Cond.code yX3_find cX3_find 6 none, Cond.fieldLink RX3 9 "SpellTurner$Partings" "count" "I"]
def wsX9_through_r4 : List Cond := [Cond.fieldLink RX3 38 "SpellTurner$Partings" "parts" "LSpellTurner$WordRow;", Cond.fieldLink RX3 42 "SpellTurner$WordRow" "count" "I", Cond.fieldLink RX3 26 "SpellTurner$Partings" "closes" "[Z", Cond.methodLink RX3 43 yX3_markFitting, Cond.instanceMethod yX3_markFitting, Cond.selects RX3 yX3_markFitting yX3_markFitting, Cond.code yX3_markFitting cX3_markFitting 7 none, Cond.fieldLink RX3 23 "SpellTurner$Partings" "fitting" "[B", Cond.fieldLink RX3 55 "SpellTurner$WordRow" "lengths" "[I", Cond.methodLink RX3 58 yJ7_fill_eb02e, Cond.static yJ7_fill_eb02e, Cond.initialized RJ7, Cond.code yJ7_fill_eb02e cJ7_fill_eb02e 5 none, Cond.methodLink RJ7 13 yJ7_rangeCheck_23922, Cond.static yJ7_rangeCheck_23922, Cond.code yJ7_rangeCheck_23922 cJ7_rangeCheck_23922 3 none, Cond.methodLink RX3 64 yX10_standsIn, Cond.instanceMethod yX10_standsIn, Cond.selects RX10 yX10_standsIn yX10_standsIn, Cond.code yX10_standsIn cX10_standsIn 4 (some .boolean), Cond.methodLink RX3 47 yX3_walk, Cond.instanceMethod yX3_walk, Cond.selects RX3 yX3_walk yX3_walk, Cond.code yX3_walk cX3_walk 6 none]
def wsX9_through_r5 : List Cond := [Cond.fieldLink RX3 30 "SpellTurner$Partings" "path" "[B", Cond.methodLink RX3 68 yX3_note, Cond.instanceMethod yX3_note, Cond.selects RX3 yX3_note yX3_note, Cond.code yX3_note cX3_note 2 none, Cond.fieldLink RX3 19 "SpellTurner$Partings" "picks" "[B", Cond.methodLink RX3 72 arraycopyName, Cond.fieldLink RX3 15 "SpellTurner$Partings" "sizes" "[I", Cond.methodLink RX9 66 yX9_runLaws, Cond.instanceMethod yX9_runLaws, Cond.selects RX9 yX9_runLaws yX9_runLaws, Cond.code yX9_runLaws cX9_runLaws 7 (some .boolean), Cond.methodLink RX9 140 Lib.Math.min.name, Cond.static Lib.Math.min.name, Cond.code Lib.Math.min.name Lib.Math.min.code 2 (some .int), Cond.methodLink RX9 134 arraycopyName, Cond.fieldLink RX9 143 "SpellTurner$Reform" "lawCount" "I", Cond.fieldLink RX9 146 "SpellTurner$Reform" "laws" "[LSpellTurner$Law;", Cond.methodLink RX9 150 yX9_apply, Cond.instanceMethod yX9_apply, Cond.selects RX9 yX9_apply yX9_apply, Cond.code yX9_apply cX9_apply 5 (some .boolean), Cond.fieldLink RX9 22 "SpellTurner$Turner" "next" "[B", Cond.fieldLink RX9 160 "SpellTurner$Law" "second" "[B"]
def wsX9_through_r6 : List Cond := [Cond.fieldLink RX9 163 "SpellTurner$Law" "first" "[B", Cond.methodLink RX9 154 yX1_standsAt, Cond.instanceMethod yX1_standsAt, Cond.selects RX1 yX1_standsAt yX1_standsAt, Cond.initialized RX1, Cond.code yX1_standsAt cX1_standsAt 7 (some .boolean), Cond.fieldLink RX1 23 "SpellTurner$Law" "first" "[B", Cond.fieldLink RX1 16 "SpellTurner$Law" "atStart" "Z", Cond.fieldLink RX1 20 "SpellTurner$Law" "atEnd" "Z", Cond.fieldLink RX1 7 "SpellTurner$Law" "ahead" "[B", Cond.fieldLink RX1 13 "SpellTurner$Law" "behind" "[B", Cond.methodLink RX1 29 yX10_same, Cond.methodLink RX9 117 yX9_turnParting, Cond.instanceMethod yX9_turnParting, Cond.selects RX9 yX9_turnParting yX9_turnParting, Cond.code yX9_turnParting cX9_turnParting 10 (some .long), Cond.fieldLink RX9 78 "SpellTurner$Reform" "turnedParts" "LSpellTurner$WordRow;", Cond.fieldLink RX9 128 "SpellTurner$Partings" "sizes" "[I", Cond.fieldLink RX9 74 "SpellTurner$Reform" "partUses" "[J", Cond.fieldLink RX9 70 "SpellTurner$Reform" "partHolds" "[Z", Cond.fieldLink RX9 33 "SpellTurner$Turner" "whole" "[B", Cond.methodLink RX9 131 yX3_pick, Cond.instanceMethod yX3_pick, Cond.selects RX3 yX3_pick yX3_pick]
def wsX9_through_r7 : List Cond := [Cond.code yX3_pick cX3_pick 3 (some .int)]
def wsX9_through : List Cond := .code yX9_through cX9_through 9 (some (.object "SpellTurner$WordRow")) :: ((wsX9_through_r1 ++ (wsX9_through_r2 ++ (wsX9_through_r3 ++ (wsX9_through_r4 ++ (wsX9_through_r5 ++ (wsX9_through_r6 ++ wsX9_through_r7)))))) ++ wsX90 ++ wsX100 ++ wsX50 ++ wsX30 ++ wsX10)
def wsX10_letterAt : List Cond := .code yX10_letterAt cX10_letterAt 3 (some .int) :: ([.fieldLink RX10 9 "SpellTurner$WordRow" "count" "I", .fieldLink RX10 22 "SpellTurner$WordRow" "lengths" "[I", .fieldLink RX10 18 "SpellTurner$WordRow" "letters" "[B", .fieldLink RX10 15 "SpellTurner$WordRow" "width" "I"] ++ wsX100)
def wsX11_init_r1 : List Cond := [Cond.methodLink RX11 3 objectInit, Cond.instanceMethod objectInit, Cond.code objectInit ⟨#[0xb1]⟩ 1 none, Cond.classLink RX11 9 RX7, Cond.instantiable RX7 2, Cond.initialized RX7, Cond.fieldLink RX11 12 "SpellTurner" "tape" "LSpellTurner$Tape;", Cond.classLink RX11 16 RX5, Cond.fieldLink RX11 18 "SpellTurner" "reforms" "[LSpellTurner$Reform;", Cond.fieldLink RX11 22 "SpellTurner" "reformCount" "I", Cond.fieldLink RX11 26 "SpellTurner" "latestDay" "I", Cond.instantiable RX5 11, Cond.initialized RX5, Cond.fieldLink RX11 30 "SpellTurner" "draft" "LSpellTurner$Reform;", Cond.classLink RX11 34 RX4, Cond.instantiable RX4 9, Cond.initialized RX4, Cond.fieldLink RX11 37 "SpellTurner" "reader" "LSpellTurner$Reader;", Cond.classLink RX11 41 RX9, Cond.instantiable RX9 8, Cond.initialized RX9, Cond.fieldLink RX11 44 "SpellTurner" "turner" "LSpellTurner$Turner;", Cond.classLink RX11 48 RX10, Cond.instantiable RX10 4]
def wsX11_init_r2 : List Cond := [Cond.initialized RX10, Cond.fieldLink RX11 53 "SpellTurner" "latestForms" "LSpellTurner$WordRow;", Cond.classLink RX11 57 RX3, Cond.instantiable RX3 7, Cond.initialized RX3, Cond.fieldLink RX11 60 "SpellTurner" "latestPartings" "LSpellTurner$Partings;", Cond.classLink RX11 64 RX0, Cond.instantiable RX0 6, Cond.initialized RX0, Cond.fieldLink RX11 67 "SpellTurner" "book" "LSpellTurner$Book;", Cond.arrayClass .int, Cond.fieldLink RX11 71 "SpellTurner" "owners" "[I", Cond.fieldLink RX11 75 "SpellTurner" "ownerCount" "I", Cond.fieldLink RX11 78 "SpellTurner" "pairs" "[I", Cond.fieldLink RX11 81 "SpellTurner" "pairCount" "I", Cond.classLink RX11 84 RX8, Cond.instantiable RX8 8, Cond.initialized RX8, Cond.fieldLink RX11 87 "SpellTurner" "textWords" "LSpellTurner$TextWords;", Cond.classLink RX11 91 RX6, Cond.instantiable RX6 9, Cond.initialized RX6, Cond.fieldLink RX11 94 "SpellTurner" "scribe" "LSpellTurner$Scribe;", Cond.classLink RX11 98 RX2]
def wsX11_init_r3 : List Cond := [Cond.instantiable RX2 6, Cond.initialized RX2, Cond.fieldLink RX11 101 "SpellTurner" "mixture" "LSpellTurner$Mixture;", Cond.instanceMethod yX7_init, Cond.code yX7_init cX7_init 1 none, Cond.methodLink RX7 3 objectInit, Cond.arrayClass .byte, Cond.fieldLink RX7 9 "SpellTurner$Tape" "bytes" "[B", Cond.fieldLink RX7 15 "SpellTurner$Tape" "length" "I", Cond.instanceMethod yX5_init, Cond.code yX5_init cX5_init 1 none, Cond.methodLink RX5 3 objectInit, Cond.fieldLink RX5 9 "SpellTurner$Reform" "day" "I", Cond.classLink RX5 15 RX1, Cond.fieldLink RX5 17 "SpellTurner$Reform" "laws" "[LSpellTurner$Law;", Cond.fieldLink RX5 21 "SpellTurner$Reform" "lawCount" "I", Cond.classLink RX5 24 RX10, Cond.fieldLink RX5 29 "SpellTurner$Reform" "parts" "LSpellTurner$WordRow;", Cond.fieldLink RX5 33 "SpellTurner$Reform" "entries" "LSpellTurner$WordRow;", Cond.fieldLink RX5 36 "SpellTurner$Reform" "becomes" "LSpellTurner$WordRow;", Cond.arrayClass .boolean, Cond.fieldLink RX5 39 "SpellTurner$Reform" "kept" "[Z", Cond.fieldLink RX5 43 "SpellTurner$Reform" "keptCount" "I", Cond.fieldLink RX5 46 "SpellTurner$Reform" "turnedParts" "LSpellTurner$WordRow;"]
def wsX11_init_r4 : List Cond := [Cond.fieldLink RX5 49 "SpellTurner$Reform" "partHolds" "[Z", Cond.arrayClass .long, Cond.fieldLink RX5 52 "SpellTurner$Reform" "partUses" "[J", Cond.methodLink RX5 26 yX10_init, Cond.instanceMethod yX10_init, Cond.code yX10_init cX10_init 3 none, Cond.methodLink RX10 3 objectInit, Cond.fieldLink RX10 9 "SpellTurner$WordRow" "count" "I", Cond.fieldLink RX10 15 "SpellTurner$WordRow" "width" "I", Cond.fieldLink RX10 18 "SpellTurner$WordRow" "letters" "[B", Cond.fieldLink RX10 22 "SpellTurner$WordRow" "lengths" "[I", Cond.instanceMethod yX4_init, Cond.code yX4_init cX4_init 1 none, Cond.methodLink RX4 3 objectInit, Cond.fieldLink RX4 9 "SpellTurner$Reader" "faultKind" "I", Cond.fieldLink RX4 15 "SpellTurner$Reader" "faultPlace" "I", Cond.fieldLink RX4 18 "SpellTurner$Reader" "text" "[B", Cond.fieldLink RX4 22 "SpellTurner$Reader" "size" "I", Cond.fieldLink RX4 25 "SpellTurner$Reader" "at" "I", Cond.fieldLink RX4 28 "SpellTurner$Reader" "token" "I", Cond.fieldLink RX4 31 "SpellTurner$Reader" "place" "I", Cond.fieldLink RX4 34 "SpellTurner$Reader" "start" "I", Cond.fieldLink RX4 37 "SpellTurner$Reader" "length" "I", Cond.instanceMethod yX9_init]
def wsX11_init_r5 : List Cond := [Cond.code yX9_init cX9_init 1 none, Cond.methodLink RX9 3 objectInit, Cond.classLink RX9 9 RX3, Cond.fieldLink RX9 12 "SpellTurner$Turner" "partings" "LSpellTurner$Partings;", Cond.fieldLink RX9 18 "SpellTurner$Turner" "now" "[B", Cond.fieldLink RX9 22 "SpellTurner$Turner" "next" "[B", Cond.fieldLink RX9 25 "SpellTurner$Turner" "length" "I", Cond.fieldLink RX9 29 "SpellTurner$Turner" "used" "J", Cond.fieldLink RX9 33 "SpellTurner$Turner" "whole" "[B", Cond.classLink RX9 36 RX10, Cond.fieldLink RX9 41 "SpellTurner$Turner" "ahead" "LSpellTurner$WordRow;", Cond.fieldLink RX9 45 "SpellTurner$Turner" "behind" "LSpellTurner$WordRow;", Cond.instanceMethod yX3_init, Cond.code yX3_init cX3_init 1 none, Cond.methodLink RX3 3 objectInit, Cond.fieldLink RX3 9 "SpellTurner$Partings" "count" "I", Cond.fieldLink RX3 15 "SpellTurner$Partings" "sizes" "[I", Cond.fieldLink RX3 19 "SpellTurner$Partings" "picks" "[B", Cond.fieldLink RX3 23 "SpellTurner$Partings" "fitting" "[B", Cond.fieldLink RX3 26 "SpellTurner$Partings" "closes" "[Z", Cond.fieldLink RX3 30 "SpellTurner$Partings" "path" "[B", Cond.classLink RX3 33 RX10, Cond.fieldLink RX3 38 "SpellTurner$Partings" "parts" "LSpellTurner$WordRow;", Cond.methodLink RX3 35 yX10_init]
def wsX11_init_r6 : List Cond := [Cond.methodLink RX9 38 yX10_init, Cond.methodLink RX11 50 yX10_init, Cond.instanceMethod yX0_init, Cond.code yX0_init cX0_init 1 none, Cond.methodLink RX0 3 objectInit, Cond.classLink RX0 9 RX10, Cond.fieldLink RX0 14 "SpellTurner$Book" "words" "LSpellTurner$WordRow;", Cond.fieldLink RX0 20 "SpellTurner$Book" "forms" "[LSpellTurner$WordRow;", Cond.fieldLink RX0 24 "SpellTurner$Book" "lawsUsed" "[J", Cond.fieldLink RX0 28 "SpellTurner$Book" "filled" "[I", Cond.fieldLink RX0 32 "SpellTurner$Book" "spare" "LSpellTurner$WordRow;", Cond.fieldLink RX0 35 "SpellTurner$Book" "nothing" "LSpellTurner$WordRow;", Cond.methodLink RX0 11 yX10_init, Cond.instanceMethod yX8_init, Cond.code yX8_init cX8_init 1 none, Cond.methodLink RX8 3 objectInit, Cond.fieldLink RX8 9 "SpellTurner$TextWords" "start" "I", Cond.fieldLink RX8 15 "SpellTurner$TextWords" "length" "I", Cond.fieldLink RX8 18 "SpellTurner$TextWords" "lineNumber" "I", Cond.fieldLink RX8 21 "SpellTurner$TextWords" "isName" "Z", Cond.fieldLink RX8 25 "SpellTurner$TextWords" "text" "[B", Cond.fieldLink RX8 29 "SpellTurner$TextWords" "size" "I", Cond.fieldLink RX8 32 "SpellTurner$TextWords" "at" "I", Cond.fieldLink RX8 35 "SpellTurner$TextWords" "quoted" "Z"]
def wsX11_init_r7 : List Cond := [Cond.instanceMethod yX6_init, Cond.code yX6_init cX6_init 1 none, Cond.methodLink RX6 3 objectInit, Cond.fieldLink RX6 9 "SpellTurner$Scribe" "told" "[B", Cond.fieldLink RX6 15 "SpellTurner$Scribe" "page" "[B", Cond.fieldLink RX6 18 "SpellTurner$Scribe" "toldTally" "[I", Cond.fieldLink RX6 22 "SpellTurner$Scribe" "tally" "[I", Cond.fieldLink RX6 25 "SpellTurner$Scribe" "hasTold" "Z", Cond.fieldLink RX6 29 "SpellTurner$Scribe" "toldSize" "I", Cond.fieldLink RX6 33 "SpellTurner$Scribe" "size" "I", Cond.fieldLink RX6 36 "SpellTurner$Scribe" "copied" "I", Cond.fieldLink RX6 39 "SpellTurner$Scribe" "fits" "Z", Cond.instanceMethod yX2_init, Cond.code yX2_init cX2_init 1 none, Cond.methodLink RX2 3 objectInit, Cond.fieldLink RX2 9 "SpellTurner$Mixture" "costs" "[I", Cond.fieldLink RX2 15 "SpellTurner$Mixture" "least" "[I", Cond.fieldLink RX2 18 "SpellTurner$Mixture" "told" "[I", Cond.fieldLink RX2 21 "SpellTurner$Mixture" "toldLines" "I", Cond.fieldLink RX2 25 "SpellTurner$Mixture" "lines" "I", Cond.fieldLink RX2 28 "SpellTurner$Mixture" "stages" "I"]
def wsX11_init : List Cond := .code yX11_init cX11_init 1 none :: ((wsX11_init_r1 ++ (wsX11_init_r2 ++ (wsX11_init_r3 ++ (wsX11_init_r4 ++ (wsX11_init_r5 ++ (wsX11_init_r6 ++ wsX11_init_r7)))))) ++ wsX70 ++ wsX110 ++ wsX50 ++ wsX40 ++ wsX90 ++ wsX100 ++ wsX30 ++ wsX00 ++ wsX80 ++ wsX60 ++ wsX20)
def wsX11_feed : List Cond := .code yX11_feed cX11_feed 6 (some .int) :: ([.fieldLink RX11 12 "SpellTurner" "tape" "LSpellTurner$Tape;", .fieldLink RX11 105 "SpellTurner$Tape" "length" "I", .methodLink RX11 108 yX7_append, .instanceMethod yX7_append, .selects RX7 yX7_append yX7_append, .initialized RX7, .code yX7_append cX7_append 3 none, .fieldLink RX7 15 "SpellTurner$Tape" "length" "I", .fieldLink RX7 9 "SpellTurner$Tape" "bytes" "[B"] ++ wsX110 ++ wsX70)
def wsX11_end : List Cond := .code yX11_end cX11_end 2 (some .int) :: ([.fieldLink RX11 12 "SpellTurner" "tape" "LSpellTurner$Tape;", .fieldLink RX11 105 "SpellTurner$Tape" "length" "I"] ++ wsX110 ++ wsX70)
def wsX11_reform_r1 : List Cond := [Cond.fieldLink RX11 12 "SpellTurner" "tape" "LSpellTurner$Tape;", Cond.fieldLink RX11 26 "SpellTurner" "latestDay" "I", Cond.constant RX11 116 (100000), Cond.fieldLink RX11 30 "SpellTurner" "draft" "LSpellTurner$Reform;", Cond.fieldLink RX11 37 "SpellTurner" "reader" "LSpellTurner$Reader;", Cond.fieldLink RX11 120 "SpellTurner$Tape" "bytes" "[B", Cond.fieldLink RX11 128 "SpellTurner$Reader" "faultKind" "I", Cond.fieldLink RX11 22 "SpellTurner" "reformCount" "I", Cond.fieldLink RX11 44 "SpellTurner" "turner" "LSpellTurner$Turner;", Cond.fieldLink RX11 18 "SpellTurner" "reforms" "[LSpellTurner$Reform;", Cond.classLink RX11 16 RX5, Cond.instantiable RX5 11, Cond.initialized RX5, Cond.methodLink RX11 112 yX7_take, Cond.instanceMethod yX7_take, Cond.selects RX7 yX7_take yX7_take, Cond.initialized RX7, Cond.code yX7_take cX7_take 2 (some .int), Cond.fieldLink RX7 15 "SpellTurner$Tape" "length" "I", Cond.methodLink RX11 117 yX5_clear, Cond.instanceMethod yX5_clear, Cond.selects RX5 yX5_clear yX5_clear, Cond.code yX5_clear cX5_clear 2 none, Cond.fieldLink RX5 9 "SpellTurner$Reform" "day" "I"]
def wsX11_reform_r2 : List Cond := [Cond.fieldLink RX5 21 "SpellTurner$Reform" "lawCount" "I", Cond.fieldLink RX5 29 "SpellTurner$Reform" "parts" "LSpellTurner$WordRow;", Cond.fieldLink RX5 56 "SpellTurner$WordRow" "count" "I", Cond.fieldLink RX5 33 "SpellTurner$Reform" "entries" "LSpellTurner$WordRow;", Cond.fieldLink RX5 36 "SpellTurner$Reform" "becomes" "LSpellTurner$WordRow;", Cond.fieldLink RX5 43 "SpellTurner$Reform" "keptCount" "I", Cond.fieldLink RX5 46 "SpellTurner$Reform" "turnedParts" "LSpellTurner$WordRow;", Cond.methodLink RX11 124 yX4_read, Cond.instanceMethod yX4_read, Cond.selects RX4 yX4_read yX4_read, Cond.initialized RX4, Cond.code yX4_read cX4_read 5 none, Cond.fieldLink RX4 18 "SpellTurner$Reader" "text" "[B", Cond.methodLink RX4 40 Lib.Math.min.name, Cond.static Lib.Math.min.name, Cond.initialized "java/lang/Math", Cond.code Lib.Math.min.name Lib.Math.min.code 2 (some .int), Cond.fieldLink RX4 22 "SpellTurner$Reader" "size" "I", Cond.fieldLink RX4 25 "SpellTurner$Reader" "at" "I", Cond.fieldLink RX4 9 "SpellTurner$Reader" "faultKind" "I", Cond.fieldLink RX4 15 "SpellTurner$Reader" "faultPlace" "I", Cond.fieldLink RX4 28 "SpellTurner$Reader" "token" "I", Cond.methodLink RX4 46 yX4_nextToken, Cond.instanceMethod yX4_nextToken]
def wsX11_reform_r3 : List Cond := [Cond.selects RX4 yX4_nextToken yX4_nextToken, Cond.code yX4_nextToken cX4_nextToken 1 none, Cond.fieldLink RX4 31 "SpellTurner$Reader" "place" "I", Cond.fieldLink RX4 37 "SpellTurner$Reader" "length" "I", Cond.methodLink RX4 186 yX4_scanRun, Cond.instanceMethod yX4_scanRun, Cond.selects RX4 yX4_scanRun yX4_scanRun, Cond.code yX4_scanRun cX4_scanRun 2 none, Cond.fieldLink RX4 34 "SpellTurner$Reader" "start" "I", Cond.methodLink RX4 190 yX10_isSmall, Cond.static yX10_isSmall, Cond.initialized RX10, Cond.code yX10_isSmall cX10_isSmall 1 (some .boolean), Cond.methodLink RX4 51 yX4_wordIs, Cond.instanceMethod yX4_wordIs, Cond.selects RX4 yX4_wordIs yX4_wordIs, Cond.code yX4_wordIs cX4_wordIs 3 (some .boolean), Cond.methodLink RX4 177 yJ0_length_8abf5, Cond.instanceMethod yJ0_length_8abf5, Cond.selects RJ0 yJ0_length_8abf5 yJ0_length_8abf5, Cond.initialized RJ0, Cond.code yJ0_length_8abf5 cJ0_length_8abf5 1 (some .int), Cond.fieldLink RJ0 9 "java/lang/String" "value" "[B", Cond.methodLink RJ0 335 yJ0_coder_7d493]
def wsX11_reform_r4 : List Cond := [Cond.instanceMethod yJ0_coder_7d493, Cond.selects RJ0 yJ0_coder_7d493 yJ0_coder_7d493, Cond.code yJ0_coder_7d493 cJ0_coder_7d493 1 (some .byte), Cond.fieldLink RJ0 38 "java/lang/String" "COMPACT_STRINGS" "Z", Cond.fieldLink RJ0 15 "java/lang/String" "coder" "B", Cond.methodLink RX4 182 yJ0_charAt_5068e, Cond.instanceMethod yJ0_charAt_5068e, Cond.selects RJ0 yJ0_charAt_5068e yJ0_charAt_5068e, Cond.code yJ0_charAt_5068e cJ0_charAt_5068e 2 (some .char), Cond.methodLink RJ0 492 yJ0_isLatin1_aae02, Cond.instanceMethod yJ0_isLatin1_aae02, Cond.selects RJ0 yJ0_isLatin1_aae02 yJ0_isLatin1_aae02, Cond.code yJ0_isLatin1_aae02 cJ0_isLatin1_aae02 1 (some .boolean), Cond.methodLink RJ0 495 yJ1_charAt_3b067, Cond.static yJ1_charAt_3b067, Cond.initialized RJ1, Cond.code yJ1_charAt_3b067 cJ1_charAt_3b067 2 (some .char), Cond.methodLink RJ1 9 yJ0_checkIndex_df160, Cond.static yJ0_checkIndex_df160, Cond.code yJ0_checkIndex_df160 cJ0_checkIndex_df160 2 none, Cond.fieldLink RJ0 1053 "jdk/internal/util/Preconditions" "SIOOBE_FORMATTER" "Ljava/util/function/BiFunction;", Cond.methodLink RJ0 1059 yJ3_checkIndex_8e157, Cond.static yJ3_checkIndex_8e157, Cond.initialized RJ3]
def wsX11_reform_r5 : List Cond := [Cond.code yJ3_checkIndex_8e157 cJ3_checkIndex_8e157 3 (some .int), Cond.methodLink RJ0 498 yJ2_charAt_3b067, Cond.static yJ2_charAt_3b067, Cond.initialized RJ2, Cond.code yJ2_charAt_3b067 cJ2_charAt_3b067 2 (some .char), Cond.methodLink RJ2 67 yJ2_checkIndex_2214a, Cond.static yJ2_checkIndex_2214a, Cond.code yJ2_checkIndex_2214a cJ2_checkIndex_2214a 2 none, Cond.methodLink RJ2 48 yJ2_length_9d52b, Cond.static yJ2_length_9d52b, Cond.code yJ2_length_9d52b cJ2_length_9d52b 1 (some .int), Cond.methodLink RJ2 414 yJ0_checkIndex_df160, Cond.methodLink RJ2 71 yJ2_getChar_3b067, Cond.static yJ2_getChar_3b067, Cond.code yJ2_getChar_3b067 cJ2_getChar_3b067 2 (some .char), Cond.fieldLink RJ2 44 "java/lang/StringUTF16" "$assertionsDisabled" "Z", Cond.fieldLink RJ2 59 "java/lang/StringUTF16" "HI_BYTE_SHIFT" "I", Cond.fieldLink RJ2 63 "java/lang/StringUTF16" "LO_BYTE_SHIFT" "I", Cond.methodLink RX4 55 yX4_readKeep, Cond.instanceMethod yX4_readKeep, Cond.selects RX4 yX4_readKeep yX4_readKeep, Cond.code yX4_readKeep cX4_readKeep 2 none, Cond.fieldLink RX4 78 "SpellTurner$Reform" "entries" "LSpellTurner$WordRow;", Cond.methodLink RX4 84 yX10_isFull]
def wsX11_reform_r6 : List Cond := [Cond.instanceMethod yX10_isFull, Cond.selects RX10 yX10_isFull yX10_isFull, Cond.code yX10_isFull cX10_isFull 1 (some .boolean), Cond.fieldLink RX10 9 "SpellTurner$WordRow" "count" "I", Cond.fieldLink RX10 22 "SpellTurner$WordRow" "lengths" "[I", Cond.methodLink RX4 90 yX4_hasRoom, Cond.instanceMethod yX4_hasRoom, Cond.selects RX4 yX4_hasRoom yX4_hasRoom, Cond.code yX4_hasRoom cX4_hasRoom 2 (some .boolean), Cond.methodLink RX4 74 yX4_blame, Cond.instanceMethod yX4_blame, Cond.selects RX4 yX4_blame yX4_blame, Cond.code yX4_blame cX4_blame 2 (some .boolean), Cond.methodLink RX4 94 yX4_takeNew, Cond.instanceMethod yX4_takeNew, Cond.selects RX4 yX4_takeNew yX4_takeNew, Cond.code yX4_takeNew cX4_takeNew 2 (some .boolean), Cond.methodLink RX4 111 yX4_takeLetters, Cond.instanceMethod yX4_takeLetters, Cond.selects RX4 yX4_takeLetters yX4_takeLetters, Cond.code yX4_takeLetters cX4_takeLetters 2 (some .boolean), Cond.methodLink RX4 165 yX10_find, Cond.instanceMethod yX10_find, Cond.selects RX10 yX10_find yX10_find]
def wsX11_reform_r7 : List Cond := [Cond.code yX10_find cX10_find 5 (some .int), Cond.fieldLink RX10 18 "SpellTurner$WordRow" "letters" "[B", Cond.fieldLink RX10 15 "SpellTurner$WordRow" "width" "I", Cond.methodLink RX10 44 yX10_same, Cond.static yX10_same, Cond.code yX10_same cX10_same 6 (some .boolean), Cond.methodLink RX4 147 yX4_isNew, Cond.instanceMethod yX4_isNew, Cond.selects RX4 yX4_isNew yX4_isNew, Cond.code yX4_isNew cX4_isNew 2 (some .boolean), Cond.methodLink RX4 98 yX5_addKept, Cond.instanceMethod yX5_addKept, Cond.selects RX5 yX5_addKept yX5_addKept, Cond.code yX5_addKept cX5_addKept 4 none, Cond.methodLink RX5 59 yX5_addEntry, Cond.instanceMethod yX5_addEntry, Cond.selects RX5 yX5_addEntry yX5_addEntry, Cond.code yX5_addEntry cX5_addEntry 5 none, Cond.fieldLink RX5 39 "SpellTurner$Reform" "kept" "[Z", Cond.methodLink RX5 67 yX10_isFull, Cond.methodLink RX5 63 yX10_add, Cond.instanceMethod yX10_add, Cond.selects RX10 yX10_add yX10_add, Cond.code yX10_add cX10_add 4 none]
def wsX11_reform_r8 : List Cond := [Cond.methodLink RX10 30 arraycopyName, Cond.native arraycopyName, Cond.static arraycopyName, Cond.initialized "java/lang/System", Cond.methodLink RX10 26 yX10_isFull, Cond.methodLink RX4 102 yX4_takeClose, Cond.instanceMethod yX4_takeClose, Cond.selects RX4 yX4_takeClose yX4_takeClose, Cond.code yX4_takeClose cX4_takeClose 1 (some .boolean), Cond.methodLink RX4 61 yX4_readList, Cond.instanceMethod yX4_readList, Cond.selects RX4 yX4_readList yX4_readList, Cond.code yX4_readList cX4_readList 2 none, Cond.fieldLink RX4 114 "SpellTurner$Reform" "becomes" "LSpellTurner$WordRow;", Cond.methodLink RX4 105 yX5_addListed, Cond.instanceMethod yX5_addListed, Cond.selects RX5 yX5_addListed yX5_addListed, Cond.code yX5_addListed cX5_addListed 4 none, Cond.methodLink RX4 108 yX4_takeTo, Cond.instanceMethod yX4_takeTo, Cond.selects RX4 yX4_takeTo yX4_takeTo, Cond.code yX4_takeTo cX4_takeTo 1 (some .boolean), Cond.methodLink RX4 117 yX10_add, Cond.methodLink RX4 66 yX4_readPart]
def wsX11_reform_r9 : List Cond := [Cond.instanceMethod yX4_readPart, Cond.selects RX4 yX4_readPart yX4_readPart, Cond.code yX4_readPart cX4_readPart 2 none, Cond.fieldLink RX4 120 "SpellTurner$Reform" "parts" "LSpellTurner$WordRow;", Cond.methodLink RX4 71 yX4_readLaw, Cond.instanceMethod yX4_readLaw, Cond.selects RX4 yX4_readLaw yX4_readLaw, Cond.code yX4_readLaw cX4_readLaw 5 none, Cond.fieldLink RX4 123 "SpellTurner$Reform" "lawCount" "I", Cond.classLink RX4 130 RX1, Cond.instantiable RX1 6, Cond.initialized RX1, Cond.methodLink RX4 126 yX4_letters, Cond.instanceMethod yX4_letters, Cond.selects RX4 yX4_letters yX4_letters, Cond.code yX4_letters cX4_letters 1 (some (.array .byte)), Cond.methodLink RX4 171 yJ7_copyOfRange_39247, Cond.static yJ7_copyOfRange_39247, Cond.initialized RJ7, Cond.code yJ7_copyOfRange_39247 cJ7_copyOfRange_39247 3 (some (.array .byte)), Cond.methodLink RJ7 310 ⟨"[B", "clone", "()Ljava/lang/Object;"⟩, Cond.sameMethod "[B" "java/lang/Object" "clone" "()Ljava/lang/Object;", Cond.native ⟨"java/lang/Object", "clone", "()Ljava/lang/Object;"⟩, Cond.instanceMethod ⟨"java/lang/Object", "clone", "()Ljava/lang/Object;"⟩]
def wsX11_reform_r10 : List Cond := [Cond.selects "[B" ⟨"[B", "clone", "()Ljava/lang/Object;"⟩ ⟨"java/lang/Object", "clone", "()Ljava/lang/Object;"⟩, Cond.classLink RJ7 311 "[B", Cond.methodLink RJ7 339 yJ7_copyOfRangeByte_39247, Cond.static yJ7_copyOfRangeByte_39247, Cond.code yJ7_copyOfRangeByte_39247 cJ7_copyOfRangeByte_39247 5 (some (.array .byte)), Cond.arrayClass .byte, Cond.methodLink RJ7 304 Lib.Math.min.name, Cond.methodLink RJ7 150 arraycopyName, Cond.methodLink RJ7 343 yJ7_checkLength_df160, Cond.static yJ7_checkLength_df160, Cond.code yJ7_checkLength_df160 cJ7_checkLength_df160 2 none, Cond.methodLink RX4 132 yX1_init, Cond.instanceMethod yX1_init, Cond.code yX1_init cX1_init 3 none, Cond.methodLink RX1 1 objectInit, Cond.instanceMethod objectInit, Cond.code objectInit ⟨#[0xb1]⟩ 1 none, Cond.fieldLink RX1 7 "SpellTurner$Law" "ahead" "[B", Cond.fieldLink RX1 13 "SpellTurner$Law" "behind" "[B", Cond.fieldLink RX1 16 "SpellTurner$Law" "atStart" "Z", Cond.fieldLink RX1 20 "SpellTurner$Law" "atEnd" "Z", Cond.fieldLink RX1 23 "SpellTurner$Law" "first" "[B", Cond.fieldLink RX1 26 "SpellTurner$Law" "second" "[B", Cond.methodLink RX4 135 yX5_addLaw]
def wsX11_reform_r11 : List Cond := [Cond.instanceMethod yX5_addLaw, Cond.selects RX5 yX5_addLaw yX5_addLaw, Cond.code yX5_addLaw cX5_addLaw 2 none, Cond.fieldLink RX5 17 "SpellTurner$Reform" "laws" "[LSpellTurner$Law;", Cond.methodLink RX4 139 yX4_readSide, Cond.instanceMethod yX4_readSide, Cond.selects RX4 yX4_readSide yX4_readSide, Cond.code yX4_readSide cX4_readSide 2 none, Cond.fieldLink RX4 143 "SpellTurner$Law" "atStart" "Z", Cond.fieldLink RX4 152 "SpellTurner$Law" "atEnd" "Z", Cond.fieldLink RX4 157 "SpellTurner$Law" "ahead" "[B", Cond.fieldLink RX4 162 "SpellTurner$Law" "behind" "[B", Cond.methodLink RX11 131 yX9_turnParts, Cond.instanceMethod yX9_turnParts, Cond.selects RX9 yX9_turnParts yX9_turnParts, Cond.initialized RX9, Cond.code yX9_turnParts cX9_turnParts 5 none, Cond.fieldLink RX9 48 "SpellTurner$Reform" "parts" "LSpellTurner$WordRow;", Cond.fieldLink RX9 53 "SpellTurner$WordRow" "count" "I", Cond.fieldLink RX9 56 "SpellTurner$WordRow" "letters" "[B", Cond.fieldLink RX9 59 "SpellTurner$WordRow" "width" "I", Cond.fieldLink RX9 62 "SpellTurner$WordRow" "lengths" "[I", Cond.fieldLink RX9 70 "SpellTurner$Reform" "partHolds" "[Z", Cond.fieldLink RX9 74 "SpellTurner$Reform" "partUses" "[J"]
def wsX11_reform_r12 : List Cond := [Cond.fieldLink RX9 29 "SpellTurner$Turner" "used" "J", Cond.fieldLink RX9 78 "SpellTurner$Reform" "turnedParts" "LSpellTurner$WordRow;", Cond.fieldLink RX9 18 "SpellTurner$Turner" "now" "[B", Cond.fieldLink RX9 25 "SpellTurner$Turner" "length" "I", Cond.methodLink RX9 66 yX9_runLaws, Cond.instanceMethod yX9_runLaws, Cond.selects RX9 yX9_runLaws yX9_runLaws, Cond.code yX9_runLaws cX9_runLaws 7 (some .boolean), Cond.methodLink RX9 140 Lib.Math.min.name, Cond.methodLink RX9 134 arraycopyName, Cond.fieldLink RX9 143 "SpellTurner$Reform" "lawCount" "I", Cond.fieldLink RX9 146 "SpellTurner$Reform" "laws" "[LSpellTurner$Law;", Cond.methodLink RX9 150 yX9_apply, Cond.instanceMethod yX9_apply, Cond.selects RX9 yX9_apply yX9_apply, Cond.code yX9_apply cX9_apply 5 (some .boolean), Cond.fieldLink RX9 22 "SpellTurner$Turner" "next" "[B", Cond.fieldLink RX9 160 "SpellTurner$Law" "second" "[B", Cond.fieldLink RX9 163 "SpellTurner$Law" "first" "[B", Cond.methodLink RX9 88 Lib.Math.max.name, Cond.static Lib.Math.max.name, Cond.code Lib.Math.max.name Lib.Math.max.code 2 (some .int), Cond.methodLink RX9 154 yX1_standsAt, Cond.instanceMethod yX1_standsAt]
def wsX11_reform_r13 : List Cond := [Cond.selects RX1 yX1_standsAt yX1_standsAt, Cond.code yX1_standsAt cX1_standsAt 7 (some .boolean), Cond.methodLink RX1 29 yX10_same, Cond.methodLink RX9 81 yX10_add, Cond.instanceMethod yX5_init, Cond.code yX5_init cX5_init 1 none, Cond.methodLink RX5 3 objectInit, Cond.classLink RX5 15 RX1, Cond.classLink RX5 24 RX10, Cond.instantiable RX10 4, Cond.arrayClass .boolean, Cond.fieldLink RX5 49 "SpellTurner$Reform" "partHolds" "[Z", Cond.arrayClass .long, Cond.fieldLink RX5 52 "SpellTurner$Reform" "partUses" "[J", Cond.methodLink RX5 26 yX10_init, Cond.instanceMethod yX10_init, Cond.code yX10_init cX10_init 3 none, Cond.methodLink RX10 3 objectInit, Cond.arrayClass .int]
def wsX11_reform : List Cond := .code yX11_reform cX11_reform 3 (some .int) :: ((wsX11_reform_r1 ++ (wsX11_reform_r2 ++ (wsX11_reform_r3 ++ (wsX11_reform_r4 ++ (wsX11_reform_r5 ++ (wsX11_reform_r6 ++ (wsX11_reform_r7 ++ (wsX11_reform_r8 ++ (wsX11_reform_r9 ++ (wsX11_reform_r10 ++ (wsX11_reform_r11 ++ (wsX11_reform_r12 ++ wsX11_reform_r13)))))))))))) ++ wsX110 ++ wsX70 ++ wsX40 ++ wsX50 ++ wsX100 ++ wsX10 ++ wsX90)
def wsX11_fault : List Cond := .code yX11_fault cX11_fault 2 (some .int) :: ([.fieldLink RX11 37 "SpellTurner" "reader" "LSpellTurner$Reader;", .fieldLink RX11 128 "SpellTurner$Reader" "faultKind" "I", .fieldLink RX11 135 "SpellTurner$Reader" "faultPlace" "I"] ++ wsX110 ++ wsX40)
def wsX11_reformAt : List Cond := .code yX11_reformAt cX11_reformAt 2 (some (.object "SpellTurner$Reform")) :: ([.fieldLink RX11 22 "SpellTurner" "reformCount" "I", .fieldLink RX11 18 "SpellTurner" "reforms" "[LSpellTurner$Reform;"] ++ wsX110)
def wsX11_about : List Cond := .code yX11_about cX11_about 4 (some .int) :: ([.fieldLink RX11 142 "SpellTurner$Reform" "day" "I", .fieldLink RX11 145 "SpellTurner$Reform" "lawCount" "I", .fieldLink RX11 148 "SpellTurner$Reform" "parts" "LSpellTurner$WordRow;", .fieldLink RX11 151 "SpellTurner$WordRow" "count" "I", .fieldLink RX11 154 "SpellTurner$Reform" "keptCount" "I", .fieldLink RX11 157 "SpellTurner$Reform" "entries" "LSpellTurner$WordRow;", .methodLink RX11 138 yX11_reformAt, .instanceMethod yX11_reformAt, .selects RX11 yX11_reformAt yX11_reformAt, .initialized RX11, .code yX11_reformAt cX11_reformAt 2 (some (.object "SpellTurner$Reform")), .fieldLink RX11 22 "SpellTurner" "reformCount" "I", .fieldLink RX11 18 "SpellTurner" "reforms" "[LSpellTurner$Reform;"] ++ wsX50 ++ wsX100 ++ wsX110)
def wsX11_stage : List Cond := .code yX11_stage cX11_stage 5 (some .int) :: ([.constant RX11 116 (100000), .fieldLink RX11 22 "SpellTurner" "reformCount" "I", .fieldLink RX11 18 "SpellTurner" "reforms" "[LSpellTurner$Reform;", .fieldLink RX11 142 "SpellTurner$Reform" "day" "I"] ++ wsX110 ++ wsX50)
def wsX11_isStage : List Cond := .code yX11_isStage cX11_isStage 2 (some .boolean) :: ([.fieldLink RX11 22 "SpellTurner" "reformCount" "I"] ++ wsX110)
def wsX11_areStages : List Cond := .code yX11_areStages cX11_areStages 3 (some .boolean) :: ([.methodLink RX11 208 yX11_isStage, .instanceMethod yX11_isStage, .selects RX11 yX11_isStage yX11_isStage, .initialized RX11, .code yX11_isStage cX11_isStage 2 (some .boolean), .fieldLink RX11 22 "SpellTurner" "reformCount" "I"] ++ wsX110)
def wsX11_turn_r1 : List Cond := [Cond.fieldLink RX11 12 "SpellTurner" "tape" "LSpellTurner$Tape;", Cond.fieldLink RX11 53 "SpellTurner" "latestForms" "LSpellTurner$WordRow;", Cond.fieldLink RX11 44 "SpellTurner" "turner" "LSpellTurner$Turner;", Cond.fieldLink RX11 18 "SpellTurner" "reforms" "[LSpellTurner$Reform;", Cond.fieldLink RX11 120 "SpellTurner$Tape" "bytes" "[B", Cond.fieldLink RX11 151 "SpellTurner$WordRow" "count" "I", Cond.methodLink RX11 112 yX7_take, Cond.instanceMethod yX7_take, Cond.selects RX7 yX7_take yX7_take, Cond.initialized RX7, Cond.code yX7_take cX7_take 2 (some .int), Cond.fieldLink RX7 15 "SpellTurner$Tape" "length" "I", Cond.methodLink RX11 160 yX11_areStages, Cond.instanceMethod yX11_areStages, Cond.selects RX11 yX11_areStages yX11_areStages, Cond.initialized RX11, Cond.code yX11_areStages cX11_areStages 3 (some .boolean), Cond.methodLink RX11 208 yX11_isStage, Cond.instanceMethod yX11_isStage, Cond.selects RX11 yX11_isStage yX11_isStage, Cond.code yX11_isStage cX11_isStage 2 (some .boolean), Cond.fieldLink RX11 22 "SpellTurner" "reformCount" "I", Cond.methodLink RX11 164 yX7_isWord, Cond.instanceMethod yX7_isWord]
def wsX11_turn_r2 : List Cond := [Cond.selects RX7 yX7_isWord yX7_isWord, Cond.code yX7_isWord cX7_isWord 3 (some .boolean), Cond.fieldLink RX7 9 "SpellTurner$Tape" "bytes" "[B", Cond.methodLink RX7 19 yX10_isSmall, Cond.static yX10_isSmall, Cond.initialized RX10, Cond.code yX10_isSmall cX10_isSmall 1 (some .boolean), Cond.methodLink RX11 168 yX9_through, Cond.instanceMethod yX9_through, Cond.selects RX9 yX9_through yX9_through, Cond.initialized RX9, Cond.code yX9_through cX9_through 9 (some (.object "SpellTurner$WordRow")), Cond.fieldLink RX9 45 "SpellTurner$Turner" "behind" "LSpellTurner$WordRow;", Cond.fieldLink RX9 53 "SpellTurner$WordRow" "count" "I", Cond.methodLink RX9 88 Lib.Math.max.name, Cond.static Lib.Math.max.name, Cond.initialized "java/lang/Math", Cond.code Lib.Math.max.name Lib.Math.max.code 2 (some .int), Cond.fieldLink RX9 41 "SpellTurner$Turner" "ahead" "LSpellTurner$WordRow;", Cond.methodLink RX9 85 yX10_addForm, Cond.instanceMethod yX10_addForm, Cond.selects RX10 yX10_addForm yX10_addForm, Cond.code yX10_addForm cX10_addForm 4 none, Cond.methodLink RX10 36 yX10_find]
def wsX11_turn_r3 : List Cond := [Cond.instanceMethod yX10_find, Cond.selects RX10 yX10_find yX10_find, Cond.code yX10_find cX10_find 5 (some .int), Cond.fieldLink RX10 9 "SpellTurner$WordRow" "count" "I", Cond.fieldLink RX10 22 "SpellTurner$WordRow" "lengths" "[I", Cond.fieldLink RX10 18 "SpellTurner$WordRow" "letters" "[B", Cond.fieldLink RX10 15 "SpellTurner$WordRow" "width" "I", Cond.methodLink RX10 44 yX10_same, Cond.static yX10_same, Cond.code yX10_same cX10_same 6 (some .boolean), Cond.methodLink RX10 40 yX10_add, Cond.instanceMethod yX10_add, Cond.selects RX10 yX10_add yX10_add, Cond.code yX10_add cX10_add 4 none, Cond.methodLink RX10 30 arraycopyName, Cond.native arraycopyName, Cond.static arraycopyName, Cond.initialized "java/lang/System", Cond.methodLink RX10 26 yX10_isFull, Cond.instanceMethod yX10_isFull, Cond.selects RX10 yX10_isFull yX10_isFull, Cond.code yX10_isFull cX10_isFull 1 (some .boolean), Cond.methodLink RX9 94 yX9_turnForms, Cond.instanceMethod yX9_turnForms]
def wsX11_turn_r4 : List Cond := [Cond.selects RX9 yX9_turnForms yX9_turnForms, Cond.code yX9_turnForms cX9_turnForms 7 (some .long), Cond.methodLink RX9 98 yX9_turnWord, Cond.instanceMethod yX9_turnWord, Cond.selects RX9 yX9_turnWord yX9_turnWord, Cond.code yX9_turnWord cX9_turnWord 11 (some .long), Cond.fieldLink RX9 59 "SpellTurner$WordRow" "width" "I", Cond.fieldLink RX9 62 "SpellTurner$WordRow" "lengths" "[I", Cond.fieldLink RX9 102 "SpellTurner$Reform" "entries" "LSpellTurner$WordRow;", Cond.fieldLink RX9 56 "SpellTurner$WordRow" "letters" "[B", Cond.fieldLink RX9 12 "SpellTurner$Turner" "partings" "LSpellTurner$Partings;", Cond.fieldLink RX9 48 "SpellTurner$Reform" "parts" "LSpellTurner$WordRow;", Cond.fieldLink RX9 116 "SpellTurner$Partings" "count" "I", Cond.fieldLink RX9 18 "SpellTurner$Turner" "now" "[B", Cond.fieldLink RX9 25 "SpellTurner$Turner" "length" "I", Cond.fieldLink RX9 29 "SpellTurner$Turner" "used" "J", Cond.methodLink RX9 105 yX10_find, Cond.methodLink RX9 109 yX9_addEntry, Cond.instanceMethod yX9_addEntry, Cond.selects RX9 yX9_addEntry yX9_addEntry, Cond.code yX9_addEntry cX9_addEntry 5 none, Cond.fieldLink RX9 125 "SpellTurner$Reform" "becomes" "LSpellTurner$WordRow;", Cond.methodLink RX9 121 yX5_isKept, Cond.instanceMethod yX5_isKept]
def wsX11_turn_r5 : List Cond := [Cond.selects RX5 yX5_isKept yX5_isKept, Cond.initialized RX5, Cond.code yX5_isKept cX5_isKept 2 (some .boolean), Cond.fieldLink RX5 39 "SpellTurner$Reform" "kept" "[Z", Cond.methodLink RX9 113 yX3_find, Cond.instanceMethod yX3_find, Cond.selects RX3 yX3_find yX3_find, Cond.initialized RX3, Cond.code yX3_find cX3_find 6 none, Cond.fieldLink RX3 9 "SpellTurner$Partings" "count" "I", Cond.fieldLink RX3 38 "SpellTurner$Partings" "parts" "LSpellTurner$WordRow;", Cond.fieldLink RX3 42 "SpellTurner$WordRow" "count" "I", Cond.fieldLink RX3 26 "SpellTurner$Partings" "closes" "[Z", Cond.methodLink RX3 43 yX3_markFitting, Cond.instanceMethod yX3_markFitting, Cond.selects RX3 yX3_markFitting yX3_markFitting, Cond.code yX3_markFitting cX3_markFitting 7 none, Cond.fieldLink RX3 23 "SpellTurner$Partings" "fitting" "[B", Cond.fieldLink RX3 55 "SpellTurner$WordRow" "lengths" "[I", Cond.methodLink RX3 58 yJ7_fill_eb02e, Cond.static yJ7_fill_eb02e, Cond.initialized RJ7, Cond.code yJ7_fill_eb02e cJ7_fill_eb02e 5 none, Cond.methodLink RJ7 13 yJ7_rangeCheck_23922]
def wsX11_turn_r6 : List Cond := [Cond.static yJ7_rangeCheck_23922, Cond.code yJ7_rangeCheck_23922 cJ7_rangeCheck_23922 3 none, Cond.methodLink RX3 64 yX10_standsIn, Cond.instanceMethod yX10_standsIn, Cond.selects RX10 yX10_standsIn yX10_standsIn, Cond.code yX10_standsIn cX10_standsIn 4 (some .boolean), Cond.methodLink RX3 47 yX3_walk, Cond.instanceMethod yX3_walk, Cond.selects RX3 yX3_walk yX3_walk, Cond.code yX3_walk cX3_walk 6 none, Cond.fieldLink RX3 30 "SpellTurner$Partings" "path" "[B", Cond.methodLink RX3 68 yX3_note, Cond.instanceMethod yX3_note, Cond.selects RX3 yX3_note yX3_note, Cond.code yX3_note cX3_note 2 none, Cond.fieldLink RX3 19 "SpellTurner$Partings" "picks" "[B", Cond.methodLink RX3 72 arraycopyName, Cond.fieldLink RX3 15 "SpellTurner$Partings" "sizes" "[I", Cond.methodLink RX9 66 yX9_runLaws, Cond.instanceMethod yX9_runLaws, Cond.selects RX9 yX9_runLaws yX9_runLaws, Cond.code yX9_runLaws cX9_runLaws 7 (some .boolean), Cond.methodLink RX9 140 Lib.Math.min.name, Cond.static Lib.Math.min.name]
def wsX11_turn_r7 : List Cond := [Cond.code Lib.Math.min.name Lib.Math.min.code 2 (some .int), Cond.methodLink RX9 134 arraycopyName, Cond.fieldLink RX9 143 "SpellTurner$Reform" "lawCount" "I", Cond.fieldLink RX9 146 "SpellTurner$Reform" "laws" "[LSpellTurner$Law;", Cond.methodLink RX9 150 yX9_apply, Cond.instanceMethod yX9_apply, Cond.selects RX9 yX9_apply yX9_apply, Cond.code yX9_apply cX9_apply 5 (some .boolean), Cond.fieldLink RX9 22 "SpellTurner$Turner" "next" "[B", Cond.fieldLink RX9 160 "SpellTurner$Law" "second" "[B", Cond.fieldLink RX9 163 "SpellTurner$Law" "first" "[B", Cond.methodLink RX9 154 yX1_standsAt, Cond.instanceMethod yX1_standsAt, Cond.selects RX1 yX1_standsAt yX1_standsAt, Cond.initialized RX1, Cond.code yX1_standsAt cX1_standsAt 7 (some .boolean), Cond.fieldLink RX1 23 "SpellTurner$Law" "first" "[B", Cond.fieldLink RX1 16 "SpellTurner$Law" "atStart" "Z", Cond.fieldLink RX1 20 "SpellTurner$Law" "atEnd" "Z", Cond.fieldLink RX1 7 "SpellTurner$Law" "ahead" "[B", Cond.fieldLink RX1 13 "SpellTurner$Law" "behind" "[B", Cond.methodLink RX1 29 yX10_same, Cond.methodLink RX9 117 yX9_turnParting, Cond.instanceMethod yX9_turnParting]
def wsX11_turn_r8 : List Cond := [Cond.selects RX9 yX9_turnParting yX9_turnParting, Cond.code yX9_turnParting cX9_turnParting 10 (some .long), Cond.fieldLink RX9 78 "SpellTurner$Reform" "turnedParts" "LSpellTurner$WordRow;", Cond.fieldLink RX9 128 "SpellTurner$Partings" "sizes" "[I", Cond.fieldLink RX9 74 "SpellTurner$Reform" "partUses" "[J", Cond.fieldLink RX9 70 "SpellTurner$Reform" "partHolds" "[Z", Cond.fieldLink RX9 33 "SpellTurner$Turner" "whole" "[B", Cond.methodLink RX9 131 yX3_pick, Cond.instanceMethod yX3_pick, Cond.selects RX3 yX3_pick yX3_pick, Cond.code yX3_pick cX3_pick 3 (some .int), Cond.methodLink RX11 172 yX10_copy, Cond.instanceMethod yX10_copy, Cond.selects RX10 yX10_copy yX10_copy, Cond.code yX10_copy cX10_copy 3 none]
def wsX11_turn : List Cond := .code yX11_turn cX11_turn 4 (some .int) :: ((wsX11_turn_r1 ++ (wsX11_turn_r2 ++ (wsX11_turn_r3 ++ (wsX11_turn_r4 ++ (wsX11_turn_r5 ++ (wsX11_turn_r6 ++ (wsX11_turn_r7 ++ wsX11_turn_r8))))))) ++ wsX110 ++ wsX70 ++ wsX100 ++ wsX90 ++ wsX50 ++ wsX30 ++ wsX10)
def wsX11_form : List Cond := .code yX11_form cX11_form 3 (some .int) :: ([.fieldLink RX11 53 "SpellTurner" "latestForms" "LSpellTurner$WordRow;", .methodLink RX11 176 yX10_letterAt, .instanceMethod yX10_letterAt, .selects RX10 yX10_letterAt yX10_letterAt, .initialized RX10, .code yX10_letterAt cX10_letterAt 3 (some .int), .fieldLink RX10 9 "SpellTurner$WordRow" "count" "I", .fieldLink RX10 22 "SpellTurner$WordRow" "lengths" "[I", .fieldLink RX10 18 "SpellTurner$WordRow" "letters" "[B", .fieldLink RX10 15 "SpellTurner$WordRow" "width" "I"] ++ wsX110 ++ wsX100)
def wsX11_partings_r1 : List Cond := [Cond.fieldLink RX11 12 "SpellTurner" "tape" "LSpellTurner$Tape;", Cond.fieldLink RX11 157 "SpellTurner$Reform" "entries" "LSpellTurner$WordRow;", Cond.fieldLink RX11 120 "SpellTurner$Tape" "bytes" "[B", Cond.fieldLink RX11 60 "SpellTurner" "latestPartings" "LSpellTurner$Partings;", Cond.fieldLink RX11 148 "SpellTurner$Reform" "parts" "LSpellTurner$WordRow;", Cond.fieldLink RX11 190 "SpellTurner$Partings" "count" "I", Cond.methodLink RX11 112 yX7_take, Cond.instanceMethod yX7_take, Cond.selects RX7 yX7_take yX7_take, Cond.initialized RX7, Cond.code yX7_take cX7_take 2 (some .int), Cond.fieldLink RX7 15 "SpellTurner$Tape" "length" "I", Cond.methodLink RX11 138 yX11_reformAt, Cond.instanceMethod yX11_reformAt, Cond.selects RX11 yX11_reformAt yX11_reformAt, Cond.initialized RX11, Cond.code yX11_reformAt cX11_reformAt 2 (some (.object "SpellTurner$Reform")), Cond.fieldLink RX11 22 "SpellTurner" "reformCount" "I", Cond.fieldLink RX11 18 "SpellTurner" "reforms" "[LSpellTurner$Reform;", Cond.methodLink RX11 164 yX7_isWord, Cond.instanceMethod yX7_isWord, Cond.selects RX7 yX7_isWord yX7_isWord, Cond.code yX7_isWord cX7_isWord 3 (some .boolean), Cond.fieldLink RX7 9 "SpellTurner$Tape" "bytes" "[B"]
def wsX11_partings_r2 : List Cond := [Cond.methodLink RX7 19 yX10_isSmall, Cond.static yX10_isSmall, Cond.initialized RX10, Cond.code yX10_isSmall cX10_isSmall 1 (some .boolean), Cond.methodLink RX11 180 yX10_find, Cond.instanceMethod yX10_find, Cond.selects RX10 yX10_find yX10_find, Cond.code yX10_find cX10_find 5 (some .int), Cond.fieldLink RX10 9 "SpellTurner$WordRow" "count" "I", Cond.fieldLink RX10 22 "SpellTurner$WordRow" "lengths" "[I", Cond.fieldLink RX10 18 "SpellTurner$WordRow" "letters" "[B", Cond.fieldLink RX10 15 "SpellTurner$WordRow" "width" "I", Cond.methodLink RX10 44 yX10_same, Cond.static yX10_same, Cond.code yX10_same cX10_same 6 (some .boolean), Cond.methodLink RX11 184 yX5_isKept, Cond.instanceMethod yX5_isKept, Cond.selects RX5 yX5_isKept yX5_isKept, Cond.initialized RX5, Cond.code yX5_isKept cX5_isKept 2 (some .boolean), Cond.fieldLink RX5 39 "SpellTurner$Reform" "kept" "[Z", Cond.methodLink RX11 187 yX3_find, Cond.instanceMethod yX3_find, Cond.selects RX3 yX3_find yX3_find]
def wsX11_partings_r3 : List Cond := [Cond.initialized RX3, Cond.code yX3_find cX3_find 6 none, Cond.fieldLink RX3 9 "SpellTurner$Partings" "count" "I", Cond.fieldLink RX3 38 "SpellTurner$Partings" "parts" "LSpellTurner$WordRow;", Cond.fieldLink RX3 42 "SpellTurner$WordRow" "count" "I", Cond.fieldLink RX3 26 "SpellTurner$Partings" "closes" "[Z", Cond.methodLink RX3 43 yX3_markFitting, Cond.instanceMethod yX3_markFitting, Cond.selects RX3 yX3_markFitting yX3_markFitting, Cond.code yX3_markFitting cX3_markFitting 7 none, Cond.fieldLink RX3 23 "SpellTurner$Partings" "fitting" "[B", Cond.fieldLink RX3 55 "SpellTurner$WordRow" "lengths" "[I", Cond.methodLink RX3 58 yJ7_fill_eb02e, Cond.static yJ7_fill_eb02e, Cond.initialized RJ7, Cond.code yJ7_fill_eb02e cJ7_fill_eb02e 5 none, Cond.methodLink RJ7 13 yJ7_rangeCheck_23922, Cond.static yJ7_rangeCheck_23922, Cond.code yJ7_rangeCheck_23922 cJ7_rangeCheck_23922 3 none, Cond.methodLink RX3 64 yX10_standsIn, Cond.instanceMethod yX10_standsIn, Cond.selects RX10 yX10_standsIn yX10_standsIn, Cond.code yX10_standsIn cX10_standsIn 4 (some .boolean), Cond.methodLink RX3 47 yX3_walk]
def wsX11_partings_r4 : List Cond := [Cond.instanceMethod yX3_walk, Cond.selects RX3 yX3_walk yX3_walk, Cond.code yX3_walk cX3_walk 6 none, Cond.fieldLink RX3 30 "SpellTurner$Partings" "path" "[B", Cond.methodLink RX3 68 yX3_note, Cond.instanceMethod yX3_note, Cond.selects RX3 yX3_note yX3_note, Cond.code yX3_note cX3_note 2 none, Cond.fieldLink RX3 19 "SpellTurner$Partings" "picks" "[B", Cond.methodLink RX3 72 arraycopyName, Cond.native arraycopyName, Cond.static arraycopyName, Cond.initialized "java/lang/System", Cond.fieldLink RX3 15 "SpellTurner$Partings" "sizes" "[I"]
def wsX11_partings : List Cond := .code yX11_partings cX11_partings 5 (some .int) :: ((wsX11_partings_r1 ++ (wsX11_partings_r2 ++ (wsX11_partings_r3 ++ wsX11_partings_r4))) ++ wsX110 ++ wsX50 ++ wsX70 ++ wsX30 ++ wsX100)
def wsX11_parting : List Cond := .code yX11_parting cX11_parting 3 (some .int) :: ([.fieldLink RX11 60 "SpellTurner" "latestPartings" "LSpellTurner$Partings;", .fieldLink RX11 190 "SpellTurner$Partings" "count" "I", .fieldLink RX11 191 "SpellTurner$Partings" "sizes" "[I", .methodLink RX11 194 yX3_lengthOf, .instanceMethod yX3_lengthOf, .selects RX3 yX3_lengthOf yX3_lengthOf, .initialized RX3, .code yX3_lengthOf cX3_lengthOf 4 (some .int), .fieldLink RX3 38 "SpellTurner$Partings" "parts" "LSpellTurner$WordRow;", .fieldLink RX3 42 "SpellTurner$WordRow" "count" "I", .fieldLink RX3 55 "SpellTurner$WordRow" "lengths" "[I", .methodLink RX3 51 yX3_pick, .instanceMethod yX3_pick, .selects RX3 yX3_pick yX3_pick, .code yX3_pick cX3_pick 3 (some .int), .fieldLink RX3 9 "SpellTurner$Partings" "count" "I", .fieldLink RX3 15 "SpellTurner$Partings" "sizes" "[I", .fieldLink RX3 19 "SpellTurner$Partings" "picks" "[B"] ++ wsX110 ++ wsX30 ++ wsX100)
def wsX11_learn_r1 : List Cond := [Cond.fieldLink RX11 12 "SpellTurner" "tape" "LSpellTurner$Tape;", Cond.fieldLink RX11 67 "SpellTurner" "book" "LSpellTurner$Book;", Cond.fieldLink RX11 197 "SpellTurner$Book" "words" "LSpellTurner$WordRow;", Cond.fieldLink RX11 120 "SpellTurner$Tape" "bytes" "[B", Cond.fieldLink RX11 151 "SpellTurner$WordRow" "count" "I", Cond.methodLink RX11 112 yX7_take, Cond.instanceMethod yX7_take, Cond.selects RX7 yX7_take yX7_take, Cond.initialized RX7, Cond.code yX7_take cX7_take 2 (some .int), Cond.fieldLink RX7 15 "SpellTurner$Tape" "length" "I", Cond.methodLink RX11 164 yX7_isWord, Cond.instanceMethod yX7_isWord, Cond.selects RX7 yX7_isWord yX7_isWord, Cond.code yX7_isWord cX7_isWord 3 (some .boolean), Cond.fieldLink RX7 9 "SpellTurner$Tape" "bytes" "[B", Cond.methodLink RX7 19 yX10_isSmall, Cond.static yX10_isSmall, Cond.initialized RX10, Cond.code yX10_isSmall cX10_isSmall 1 (some .boolean), Cond.methodLink RX11 180 yX10_find, Cond.instanceMethod yX10_find, Cond.selects RX10 yX10_find yX10_find, Cond.code yX10_find cX10_find 5 (some .int)]
def wsX11_learn_r2 : List Cond := [Cond.fieldLink RX10 9 "SpellTurner$WordRow" "count" "I", Cond.fieldLink RX10 22 "SpellTurner$WordRow" "lengths" "[I", Cond.fieldLink RX10 18 "SpellTurner$WordRow" "letters" "[B", Cond.fieldLink RX10 15 "SpellTurner$WordRow" "width" "I", Cond.methodLink RX10 44 yX10_same, Cond.static yX10_same, Cond.code yX10_same cX10_same 6 (some .boolean), Cond.methodLink RX11 200 yX10_isFull, Cond.instanceMethod yX10_isFull, Cond.selects RX10 yX10_isFull yX10_isFull, Cond.code yX10_isFull cX10_isFull 1 (some .boolean), Cond.methodLink RX11 204 yX10_add, Cond.instanceMethod yX10_add, Cond.selects RX10 yX10_add yX10_add, Cond.code yX10_add cX10_add 4 none, Cond.methodLink RX10 30 arraycopyName, Cond.native arraycopyName, Cond.static arraycopyName, Cond.initialized "java/lang/System", Cond.methodLink RX10 26 yX10_isFull]
def wsX11_learn : List Cond := .code yX11_learn cX11_learn 3 (some .int) :: ((wsX11_learn_r1 ++ wsX11_learn_r2) ++ wsX110 ++ wsX00 ++ wsX70 ++ wsX100)
def wsX11_word : List Cond := .code yX11_word cX11_word 3 (some .int) :: ([.fieldLink RX11 67 "SpellTurner" "book" "LSpellTurner$Book;", .fieldLink RX11 197 "SpellTurner$Book" "words" "LSpellTurner$WordRow;", .methodLink RX11 176 yX10_letterAt, .instanceMethod yX10_letterAt, .selects RX10 yX10_letterAt yX10_letterAt, .initialized RX10, .code yX10_letterAt cX10_letterAt 3 (some .int), .fieldLink RX10 9 "SpellTurner$WordRow" "count" "I", .fieldLink RX10 22 "SpellTurner$WordRow" "lengths" "[I", .fieldLink RX10 18 "SpellTurner$WordRow" "letters" "[B", .fieldLink RX10 15 "SpellTurner$WordRow" "width" "I"] ++ wsX110 ++ wsX00 ++ wsX100)
def wsX11_back_r1 : List Cond := [Cond.fieldLink RX11 12 "SpellTurner" "tape" "LSpellTurner$Tape;", Cond.fieldLink RX11 67 "SpellTurner" "book" "LSpellTurner$Book;", Cond.fieldLink RX11 18 "SpellTurner" "reforms" "[LSpellTurner$Reform;", Cond.fieldLink RX11 44 "SpellTurner" "turner" "LSpellTurner$Turner;", Cond.fieldLink RX11 75 "SpellTurner" "ownerCount" "I", Cond.fieldLink RX11 197 "SpellTurner$Book" "words" "LSpellTurner$WordRow;", Cond.fieldLink RX11 151 "SpellTurner$WordRow" "count" "I", Cond.fieldLink RX11 120 "SpellTurner$Tape" "bytes" "[B", Cond.fieldLink RX11 71 "SpellTurner" "owners" "[I", Cond.methodLink RX11 112 yX7_take, Cond.instanceMethod yX7_take, Cond.selects RX7 yX7_take yX7_take, Cond.initialized RX7, Cond.code yX7_take cX7_take 2 (some .int), Cond.fieldLink RX7 15 "SpellTurner$Tape" "length" "I", Cond.methodLink RX11 208 yX11_isStage, Cond.instanceMethod yX11_isStage, Cond.selects RX11 yX11_isStage yX11_isStage, Cond.initialized RX11, Cond.code yX11_isStage cX11_isStage 2 (some .boolean), Cond.fieldLink RX11 22 "SpellTurner" "reformCount" "I", Cond.methodLink RX11 164 yX7_isWord, Cond.instanceMethod yX7_isWord, Cond.selects RX7 yX7_isWord yX7_isWord]
def wsX11_back_r2 : List Cond := [Cond.code yX7_isWord cX7_isWord 3 (some .boolean), Cond.fieldLink RX7 9 "SpellTurner$Tape" "bytes" "[B", Cond.methodLink RX7 19 yX10_isSmall, Cond.static yX10_isSmall, Cond.initialized RX10, Cond.code yX10_isSmall cX10_isSmall 1 (some .boolean), Cond.methodLink RX11 211 yX0_fill, Cond.instanceMethod yX0_fill, Cond.selects RX0 yX0_fill yX0_fill, Cond.initialized RX0, Cond.code yX0_fill cX0_fill 7 none, Cond.fieldLink RX0 28 "SpellTurner$Book" "filled" "[I", Cond.fieldLink RX0 14 "SpellTurner$Book" "words" "LSpellTurner$WordRow;", Cond.fieldLink RX0 38 "SpellTurner$WordRow" "count" "I", Cond.fieldLink RX0 32 "SpellTurner$Book" "spare" "LSpellTurner$WordRow;", Cond.fieldLink RX0 42 "SpellTurner$WordRow" "letters" "[B", Cond.fieldLink RX0 46 "SpellTurner$WordRow" "width" "I", Cond.fieldLink RX0 49 "SpellTurner$WordRow" "lengths" "[I", Cond.fieldLink RX0 24 "SpellTurner$Book" "lawsUsed" "[J", Cond.classLink RX0 9 RX10, Cond.instantiable RX10 4, Cond.fieldLink RX0 20 "SpellTurner$Book" "forms" "[LSpellTurner$WordRow;", Cond.methodLink RX0 52 yX10_add, Cond.instanceMethod yX10_add]
def wsX11_back_r3 : List Cond := [Cond.selects RX10 yX10_add yX10_add, Cond.code yX10_add cX10_add 4 none, Cond.fieldLink RX10 15 "SpellTurner$WordRow" "width" "I", Cond.fieldLink RX10 18 "SpellTurner$WordRow" "letters" "[B", Cond.fieldLink RX10 9 "SpellTurner$WordRow" "count" "I", Cond.methodLink RX10 30 arraycopyName, Cond.native arraycopyName, Cond.static arraycopyName, Cond.initialized "java/lang/System", Cond.fieldLink RX10 22 "SpellTurner$WordRow" "lengths" "[I", Cond.methodLink RX10 26 yX10_isFull, Cond.instanceMethod yX10_isFull, Cond.selects RX10 yX10_isFull yX10_isFull, Cond.code yX10_isFull cX10_isFull 1 (some .boolean), Cond.methodLink RX0 56 yX0_formsAt, Cond.instanceMethod yX0_formsAt, Cond.selects RX0 yX0_formsAt yX0_formsAt, Cond.code yX0_formsAt cX0_formsAt 4 (some (.object "SpellTurner$WordRow")), Cond.fieldLink RX0 35 "SpellTurner$Book" "nothing" "LSpellTurner$WordRow;", Cond.methodLink RX0 60 yX9_turnForms, Cond.instanceMethod yX9_turnForms, Cond.selects RX9 yX9_turnForms yX9_turnForms, Cond.initialized RX9, Cond.code yX9_turnForms cX9_turnForms 7 (some .long)]
def wsX11_back_r4 : List Cond := [Cond.fieldLink RX9 53 "SpellTurner$WordRow" "count" "I", Cond.methodLink RX9 98 yX9_turnWord, Cond.instanceMethod yX9_turnWord, Cond.selects RX9 yX9_turnWord yX9_turnWord, Cond.code yX9_turnWord cX9_turnWord 11 (some .long), Cond.fieldLink RX9 59 "SpellTurner$WordRow" "width" "I", Cond.fieldLink RX9 62 "SpellTurner$WordRow" "lengths" "[I", Cond.fieldLink RX9 102 "SpellTurner$Reform" "entries" "LSpellTurner$WordRow;", Cond.fieldLink RX9 56 "SpellTurner$WordRow" "letters" "[B", Cond.fieldLink RX9 12 "SpellTurner$Turner" "partings" "LSpellTurner$Partings;", Cond.fieldLink RX9 48 "SpellTurner$Reform" "parts" "LSpellTurner$WordRow;", Cond.fieldLink RX9 116 "SpellTurner$Partings" "count" "I", Cond.fieldLink RX9 18 "SpellTurner$Turner" "now" "[B", Cond.fieldLink RX9 25 "SpellTurner$Turner" "length" "I", Cond.fieldLink RX9 29 "SpellTurner$Turner" "used" "J", Cond.methodLink RX9 105 yX10_find, Cond.instanceMethod yX10_find, Cond.selects RX10 yX10_find yX10_find, Cond.code yX10_find cX10_find 5 (some .int), Cond.methodLink RX10 44 yX10_same, Cond.static yX10_same, Cond.code yX10_same cX10_same 6 (some .boolean), Cond.methodLink RX9 109 yX9_addEntry, Cond.instanceMethod yX9_addEntry]
def wsX11_back_r5 : List Cond := [Cond.selects RX9 yX9_addEntry yX9_addEntry, Cond.code yX9_addEntry cX9_addEntry 5 none, Cond.fieldLink RX9 125 "SpellTurner$Reform" "becomes" "LSpellTurner$WordRow;", Cond.methodLink RX9 121 yX5_isKept, Cond.instanceMethod yX5_isKept, Cond.selects RX5 yX5_isKept yX5_isKept, Cond.initialized RX5, Cond.code yX5_isKept cX5_isKept 2 (some .boolean), Cond.fieldLink RX5 39 "SpellTurner$Reform" "kept" "[Z", Cond.methodLink RX9 85 yX10_addForm, Cond.instanceMethod yX10_addForm, Cond.selects RX10 yX10_addForm yX10_addForm, Cond.code yX10_addForm cX10_addForm 4 none, Cond.methodLink RX10 36 yX10_find, Cond.methodLink RX10 40 yX10_add, Cond.methodLink RX9 113 yX3_find, Cond.instanceMethod yX3_find, Cond.selects RX3 yX3_find yX3_find, Cond.initialized RX3, Cond.code yX3_find cX3_find 6 none, Cond.fieldLink RX3 9 "SpellTurner$Partings" "count" "I", Cond.fieldLink RX3 38 "SpellTurner$Partings" "parts" "LSpellTurner$WordRow;", Cond.fieldLink RX3 42 "SpellTurner$WordRow" "count" "I", Cond.fieldLink RX3 26 "SpellTurner$Partings" "closes" "[Z"]
def wsX11_back_r6 : List Cond := [Cond.methodLink RX3 43 yX3_markFitting, Cond.instanceMethod yX3_markFitting, Cond.selects RX3 yX3_markFitting yX3_markFitting, Cond.code yX3_markFitting cX3_markFitting 7 none, Cond.fieldLink RX3 23 "SpellTurner$Partings" "fitting" "[B", Cond.fieldLink RX3 55 "SpellTurner$WordRow" "lengths" "[I", Cond.methodLink RX3 58 yJ7_fill_eb02e, Cond.static yJ7_fill_eb02e, Cond.initialized RJ7, Cond.code yJ7_fill_eb02e cJ7_fill_eb02e 5 none, Cond.methodLink RJ7 13 yJ7_rangeCheck_23922, Cond.static yJ7_rangeCheck_23922, Cond.code yJ7_rangeCheck_23922 cJ7_rangeCheck_23922 3 none, Cond.methodLink RX3 64 yX10_standsIn, Cond.instanceMethod yX10_standsIn, Cond.selects RX10 yX10_standsIn yX10_standsIn, Cond.code yX10_standsIn cX10_standsIn 4 (some .boolean), Cond.methodLink RX3 47 yX3_walk, Cond.instanceMethod yX3_walk, Cond.selects RX3 yX3_walk yX3_walk, Cond.code yX3_walk cX3_walk 6 none, Cond.fieldLink RX3 30 "SpellTurner$Partings" "path" "[B", Cond.methodLink RX3 68 yX3_note, Cond.instanceMethod yX3_note]
def wsX11_back_r7 : List Cond := [Cond.selects RX3 yX3_note yX3_note, Cond.code yX3_note cX3_note 2 none, Cond.fieldLink RX3 19 "SpellTurner$Partings" "picks" "[B", Cond.methodLink RX3 72 arraycopyName, Cond.fieldLink RX3 15 "SpellTurner$Partings" "sizes" "[I", Cond.methodLink RX9 66 yX9_runLaws, Cond.instanceMethod yX9_runLaws, Cond.selects RX9 yX9_runLaws yX9_runLaws, Cond.code yX9_runLaws cX9_runLaws 7 (some .boolean), Cond.methodLink RX9 140 Lib.Math.min.name, Cond.static Lib.Math.min.name, Cond.initialized "java/lang/Math", Cond.code Lib.Math.min.name Lib.Math.min.code 2 (some .int), Cond.methodLink RX9 134 arraycopyName, Cond.fieldLink RX9 143 "SpellTurner$Reform" "lawCount" "I", Cond.fieldLink RX9 146 "SpellTurner$Reform" "laws" "[LSpellTurner$Law;", Cond.methodLink RX9 150 yX9_apply, Cond.instanceMethod yX9_apply, Cond.selects RX9 yX9_apply yX9_apply, Cond.code yX9_apply cX9_apply 5 (some .boolean), Cond.fieldLink RX9 22 "SpellTurner$Turner" "next" "[B", Cond.fieldLink RX9 160 "SpellTurner$Law" "second" "[B", Cond.fieldLink RX9 163 "SpellTurner$Law" "first" "[B", Cond.methodLink RX9 88 Lib.Math.max.name]
def wsX11_back_r8 : List Cond := [Cond.static Lib.Math.max.name, Cond.code Lib.Math.max.name Lib.Math.max.code 2 (some .int), Cond.methodLink RX9 154 yX1_standsAt, Cond.instanceMethod yX1_standsAt, Cond.selects RX1 yX1_standsAt yX1_standsAt, Cond.initialized RX1, Cond.code yX1_standsAt cX1_standsAt 7 (some .boolean), Cond.fieldLink RX1 23 "SpellTurner$Law" "first" "[B", Cond.fieldLink RX1 16 "SpellTurner$Law" "atStart" "Z", Cond.fieldLink RX1 20 "SpellTurner$Law" "atEnd" "Z", Cond.fieldLink RX1 7 "SpellTurner$Law" "ahead" "[B", Cond.fieldLink RX1 13 "SpellTurner$Law" "behind" "[B", Cond.methodLink RX1 29 yX10_same, Cond.methodLink RX9 117 yX9_turnParting, Cond.instanceMethod yX9_turnParting, Cond.selects RX9 yX9_turnParting yX9_turnParting, Cond.code yX9_turnParting cX9_turnParting 10 (some .long), Cond.fieldLink RX9 78 "SpellTurner$Reform" "turnedParts" "LSpellTurner$WordRow;", Cond.fieldLink RX9 128 "SpellTurner$Partings" "sizes" "[I", Cond.fieldLink RX9 74 "SpellTurner$Reform" "partUses" "[J", Cond.fieldLink RX9 70 "SpellTurner$Reform" "partHolds" "[Z", Cond.fieldLink RX9 33 "SpellTurner$Turner" "whole" "[B", Cond.methodLink RX9 131 yX3_pick, Cond.instanceMethod yX3_pick]
def wsX11_back_r9 : List Cond := [Cond.selects RX3 yX3_pick yX3_pick, Cond.code yX3_pick cX3_pick 3 (some .int), Cond.methodLink RX0 11 yX10_init, Cond.instanceMethod yX10_init, Cond.code yX10_init cX10_init 3 none, Cond.methodLink RX10 3 objectInit, Cond.instanceMethod objectInit, Cond.code objectInit ⟨#[0xb1]⟩ 1 none, Cond.arrayClass .byte, Cond.arrayClass .int, Cond.methodLink RX0 66 yX10_copy, Cond.instanceMethod yX10_copy, Cond.selects RX10 yX10_copy yX10_copy, Cond.code yX10_copy cX10_copy 3 none, Cond.methodLink RX11 215 yX0_formsAt, Cond.methodLink RX11 180 yX10_find]
def wsX11_back : List Cond := .code yX11_back cX11_back 4 (some .int) :: ((wsX11_back_r1 ++ (wsX11_back_r2 ++ (wsX11_back_r3 ++ (wsX11_back_r4 ++ (wsX11_back_r5 ++ (wsX11_back_r6 ++ (wsX11_back_r7 ++ (wsX11_back_r8 ++ wsX11_back_r9)))))))) ++ wsX110 ++ wsX00 ++ wsX100 ++ wsX70 ++ wsX50 ++ wsX90 ++ wsX30 ++ wsX10)
def wsX11_old : List Cond := .code yX11_old cX11_old 2 (some .int) :: ([.fieldLink RX11 75 "SpellTurner" "ownerCount" "I", .fieldLink RX11 71 "SpellTurner" "owners" "[I"] ++ wsX110)
def wsX11_notePair : List Cond := .code yX11_notePair cX11_notePair 2 none :: ([.fieldLink RX11 81 "SpellTurner" "pairCount" "I", .fieldLink RX11 78 "SpellTurner" "pairs" "[I"] ++ wsX110)
def wsX11_collisions_r1 : List Cond := [Cond.fieldLink RX11 81 "SpellTurner" "pairCount" "I", Cond.fieldLink RX11 67 "SpellTurner" "book" "LSpellTurner$Book;", Cond.fieldLink RX11 18 "SpellTurner" "reforms" "[LSpellTurner$Reform;", Cond.fieldLink RX11 44 "SpellTurner" "turner" "LSpellTurner$Turner;", Cond.fieldLink RX11 197 "SpellTurner$Book" "words" "LSpellTurner$WordRow;", Cond.fieldLink RX11 151 "SpellTurner$WordRow" "count" "I", Cond.methodLink RX11 208 yX11_isStage, Cond.instanceMethod yX11_isStage, Cond.selects RX11 yX11_isStage yX11_isStage, Cond.initialized RX11, Cond.code yX11_isStage cX11_isStage 2 (some .boolean), Cond.fieldLink RX11 22 "SpellTurner" "reformCount" "I", Cond.methodLink RX11 211 yX0_fill, Cond.instanceMethod yX0_fill, Cond.selects RX0 yX0_fill yX0_fill, Cond.initialized RX0, Cond.code yX0_fill cX0_fill 7 none, Cond.fieldLink RX0 28 "SpellTurner$Book" "filled" "[I", Cond.fieldLink RX0 14 "SpellTurner$Book" "words" "LSpellTurner$WordRow;", Cond.fieldLink RX0 38 "SpellTurner$WordRow" "count" "I", Cond.fieldLink RX0 32 "SpellTurner$Book" "spare" "LSpellTurner$WordRow;", Cond.fieldLink RX0 42 "SpellTurner$WordRow" "letters" "[B", Cond.fieldLink RX0 46 "SpellTurner$WordRow" "width" "I", Cond.fieldLink RX0 49 "SpellTurner$WordRow" "lengths" "[I"]
def wsX11_collisions_r2 : List Cond := [Cond.fieldLink RX0 24 "SpellTurner$Book" "lawsUsed" "[J", Cond.classLink RX0 9 RX10, Cond.instantiable RX10 4, Cond.initialized RX10, Cond.fieldLink RX0 20 "SpellTurner$Book" "forms" "[LSpellTurner$WordRow;", Cond.methodLink RX0 52 yX10_add, Cond.instanceMethod yX10_add, Cond.selects RX10 yX10_add yX10_add, Cond.code yX10_add cX10_add 4 none, Cond.fieldLink RX10 15 "SpellTurner$WordRow" "width" "I", Cond.fieldLink RX10 18 "SpellTurner$WordRow" "letters" "[B", Cond.fieldLink RX10 9 "SpellTurner$WordRow" "count" "I", Cond.methodLink RX10 30 arraycopyName, Cond.native arraycopyName, Cond.static arraycopyName, Cond.initialized "java/lang/System", Cond.fieldLink RX10 22 "SpellTurner$WordRow" "lengths" "[I", Cond.methodLink RX10 26 yX10_isFull, Cond.instanceMethod yX10_isFull, Cond.selects RX10 yX10_isFull yX10_isFull, Cond.code yX10_isFull cX10_isFull 1 (some .boolean), Cond.methodLink RX0 56 yX0_formsAt, Cond.instanceMethod yX0_formsAt, Cond.selects RX0 yX0_formsAt yX0_formsAt]
def wsX11_collisions_r3 : List Cond := [Cond.code yX0_formsAt cX0_formsAt 4 (some (.object "SpellTurner$WordRow")), Cond.fieldLink RX0 35 "SpellTurner$Book" "nothing" "LSpellTurner$WordRow;", Cond.methodLink RX0 60 yX9_turnForms, Cond.instanceMethod yX9_turnForms, Cond.selects RX9 yX9_turnForms yX9_turnForms, Cond.initialized RX9, Cond.code yX9_turnForms cX9_turnForms 7 (some .long), Cond.fieldLink RX9 53 "SpellTurner$WordRow" "count" "I", Cond.methodLink RX9 98 yX9_turnWord, Cond.instanceMethod yX9_turnWord, Cond.selects RX9 yX9_turnWord yX9_turnWord, Cond.code yX9_turnWord cX9_turnWord 11 (some .long), Cond.fieldLink RX9 59 "SpellTurner$WordRow" "width" "I", Cond.fieldLink RX9 62 "SpellTurner$WordRow" "lengths" "[I", Cond.fieldLink RX9 102 "SpellTurner$Reform" "entries" "LSpellTurner$WordRow;", Cond.fieldLink RX9 56 "SpellTurner$WordRow" "letters" "[B", Cond.fieldLink RX9 12 "SpellTurner$Turner" "partings" "LSpellTurner$Partings;", Cond.fieldLink RX9 48 "SpellTurner$Reform" "parts" "LSpellTurner$WordRow;", Cond.fieldLink RX9 116 "SpellTurner$Partings" "count" "I", Cond.fieldLink RX9 18 "SpellTurner$Turner" "now" "[B", Cond.fieldLink RX9 25 "SpellTurner$Turner" "length" "I", Cond.fieldLink RX9 29 "SpellTurner$Turner" "used" "J", Cond.methodLink RX9 105 yX10_find, Cond.instanceMethod yX10_find]
def wsX11_collisions_r4 : List Cond := [Cond.selects RX10 yX10_find yX10_find, Cond.code yX10_find cX10_find 5 (some .int), Cond.methodLink RX10 44 yX10_same, Cond.static yX10_same, Cond.code yX10_same cX10_same 6 (some .boolean), Cond.methodLink RX9 109 yX9_addEntry, Cond.instanceMethod yX9_addEntry, Cond.selects RX9 yX9_addEntry yX9_addEntry, Cond.code yX9_addEntry cX9_addEntry 5 none, Cond.fieldLink RX9 125 "SpellTurner$Reform" "becomes" "LSpellTurner$WordRow;", Cond.methodLink RX9 121 yX5_isKept, Cond.instanceMethod yX5_isKept, Cond.selects RX5 yX5_isKept yX5_isKept, Cond.initialized RX5, Cond.code yX5_isKept cX5_isKept 2 (some .boolean), Cond.fieldLink RX5 39 "SpellTurner$Reform" "kept" "[Z", Cond.methodLink RX9 85 yX10_addForm, Cond.instanceMethod yX10_addForm, Cond.selects RX10 yX10_addForm yX10_addForm, Cond.code yX10_addForm cX10_addForm 4 none, Cond.methodLink RX10 36 yX10_find, Cond.methodLink RX10 40 yX10_add, Cond.methodLink RX9 113 yX3_find, Cond.instanceMethod yX3_find]
def wsX11_collisions_r5 : List Cond := [Cond.selects RX3 yX3_find yX3_find, Cond.initialized RX3, Cond.code yX3_find cX3_find 6 none, Cond.fieldLink RX3 9 "SpellTurner$Partings" "count" "I", Cond.fieldLink RX3 38 "SpellTurner$Partings" "parts" "LSpellTurner$WordRow;", Cond.fieldLink RX3 42 "SpellTurner$WordRow" "count" "I", Cond.fieldLink RX3 26 "SpellTurner$Partings" "closes" "[Z", Cond.methodLink RX3 43 yX3_markFitting, Cond.instanceMethod yX3_markFitting, Cond.selects RX3 yX3_markFitting yX3_markFitting, Cond.code yX3_markFitting cX3_markFitting 7 none, Cond.fieldLink RX3 23 "SpellTurner$Partings" "fitting" "[B", Cond.fieldLink RX3 55 "SpellTurner$WordRow" "lengths" "[I", Cond.methodLink RX3 58 yJ7_fill_eb02e, Cond.static yJ7_fill_eb02e, Cond.initialized RJ7, Cond.code yJ7_fill_eb02e cJ7_fill_eb02e 5 none, Cond.methodLink RJ7 13 yJ7_rangeCheck_23922, Cond.static yJ7_rangeCheck_23922, Cond.code yJ7_rangeCheck_23922 cJ7_rangeCheck_23922 3 none, Cond.methodLink RX3 64 yX10_standsIn, Cond.instanceMethod yX10_standsIn, Cond.selects RX10 yX10_standsIn yX10_standsIn, Cond.code yX10_standsIn cX10_standsIn 4 (some .boolean)]
def wsX11_collisions_r6 : List Cond := [Cond.methodLink RX3 47 yX3_walk, Cond.instanceMethod yX3_walk, Cond.selects RX3 yX3_walk yX3_walk, Cond.code yX3_walk cX3_walk 6 none, Cond.fieldLink RX3 30 "SpellTurner$Partings" "path" "[B", Cond.methodLink RX3 68 yX3_note, Cond.instanceMethod yX3_note, Cond.selects RX3 yX3_note yX3_note, Cond.code yX3_note cX3_note 2 none, Cond.fieldLink RX3 19 "SpellTurner$Partings" "picks" "[B", Cond.methodLink RX3 72 arraycopyName, Cond.fieldLink RX3 15 "SpellTurner$Partings" "sizes" "[I", Cond.methodLink RX9 66 yX9_runLaws, Cond.instanceMethod yX9_runLaws, Cond.selects RX9 yX9_runLaws yX9_runLaws, Cond.code yX9_runLaws cX9_runLaws 7 (some .boolean), Cond.methodLink RX9 140 Lib.Math.min.name, Cond.static Lib.Math.min.name, Cond.initialized "java/lang/Math", Cond.code Lib.Math.min.name Lib.Math.min.code 2 (some .int), Cond.methodLink RX9 134 arraycopyName, Cond.fieldLink RX9 143 "SpellTurner$Reform" "lawCount" "I", Cond.fieldLink RX9 146 "SpellTurner$Reform" "laws" "[LSpellTurner$Law;", Cond.methodLink RX9 150 yX9_apply]
def wsX11_collisions_r7 : List Cond := [Cond.instanceMethod yX9_apply, Cond.selects RX9 yX9_apply yX9_apply, Cond.code yX9_apply cX9_apply 5 (some .boolean), Cond.fieldLink RX9 22 "SpellTurner$Turner" "next" "[B", Cond.fieldLink RX9 160 "SpellTurner$Law" "second" "[B", Cond.fieldLink RX9 163 "SpellTurner$Law" "first" "[B", Cond.methodLink RX9 88 Lib.Math.max.name, Cond.static Lib.Math.max.name, Cond.code Lib.Math.max.name Lib.Math.max.code 2 (some .int), Cond.methodLink RX9 154 yX1_standsAt, Cond.instanceMethod yX1_standsAt, Cond.selects RX1 yX1_standsAt yX1_standsAt, Cond.initialized RX1, Cond.code yX1_standsAt cX1_standsAt 7 (some .boolean), Cond.fieldLink RX1 23 "SpellTurner$Law" "first" "[B", Cond.fieldLink RX1 16 "SpellTurner$Law" "atStart" "Z", Cond.fieldLink RX1 20 "SpellTurner$Law" "atEnd" "Z", Cond.fieldLink RX1 7 "SpellTurner$Law" "ahead" "[B", Cond.fieldLink RX1 13 "SpellTurner$Law" "behind" "[B", Cond.methodLink RX1 29 yX10_same, Cond.methodLink RX9 117 yX9_turnParting, Cond.instanceMethod yX9_turnParting, Cond.selects RX9 yX9_turnParting yX9_turnParting, Cond.code yX9_turnParting cX9_turnParting 10 (some .long)]
def wsX11_collisions_r8 : List Cond := [Cond.fieldLink RX9 78 "SpellTurner$Reform" "turnedParts" "LSpellTurner$WordRow;", Cond.fieldLink RX9 128 "SpellTurner$Partings" "sizes" "[I", Cond.fieldLink RX9 74 "SpellTurner$Reform" "partUses" "[J", Cond.fieldLink RX9 70 "SpellTurner$Reform" "partHolds" "[Z", Cond.fieldLink RX9 33 "SpellTurner$Turner" "whole" "[B", Cond.methodLink RX9 131 yX3_pick, Cond.instanceMethod yX3_pick, Cond.selects RX3 yX3_pick yX3_pick, Cond.code yX3_pick cX3_pick 3 (some .int), Cond.methodLink RX0 11 yX10_init, Cond.instanceMethod yX10_init, Cond.code yX10_init cX10_init 3 none, Cond.methodLink RX10 3 objectInit, Cond.instanceMethod objectInit, Cond.code objectInit ⟨#[0xb1]⟩ 1 none, Cond.arrayClass .byte, Cond.arrayClass .int, Cond.methodLink RX0 66 yX10_copy, Cond.instanceMethod yX10_copy, Cond.selects RX10 yX10_copy yX10_copy, Cond.code yX10_copy cX10_copy 3 none, Cond.methodLink RX11 219 yX0_collide, Cond.instanceMethod yX0_collide, Cond.selects RX0 yX0_collide yX0_collide]
def wsX11_collisions_r9 : List Cond := [Cond.code yX0_collide cX0_collide 7 (some .boolean), Cond.methodLink RX0 70 yX10_find, Cond.methodLink RX11 223 yX11_notePair, Cond.instanceMethod yX11_notePair, Cond.selects RX11 yX11_notePair yX11_notePair, Cond.code yX11_notePair cX11_notePair 2 none, Cond.fieldLink RX11 78 "SpellTurner" "pairs" "[I"]
def wsX11_collisions : List Cond := .code yX11_collisions cX11_collisions 5 (some .int) :: ((wsX11_collisions_r1 ++ (wsX11_collisions_r2 ++ (wsX11_collisions_r3 ++ (wsX11_collisions_r4 ++ (wsX11_collisions_r5 ++ (wsX11_collisions_r6 ++ (wsX11_collisions_r7 ++ (wsX11_collisions_r8 ++ wsX11_collisions_r9)))))))) ++ wsX110 ++ wsX00 ++ wsX100 ++ wsX50 ++ wsX90 ++ wsX30 ++ wsX10)
def wsX11_collision : List Cond := .code yX11_collision cX11_collision 2 (some .int) :: ([.fieldLink RX11 81 "SpellTurner" "pairCount" "I", .fieldLink RX11 78 "SpellTurner" "pairs" "[I"] ++ wsX110)
def wsX11_rhymes_r1 : List Cond := [Cond.fieldLink RX11 67 "SpellTurner" "book" "LSpellTurner$Book;", Cond.fieldLink RX11 18 "SpellTurner" "reforms" "[LSpellTurner$Reform;", Cond.fieldLink RX11 44 "SpellTurner" "turner" "LSpellTurner$Turner;", Cond.fieldLink RX11 197 "SpellTurner$Book" "words" "LSpellTurner$WordRow;", Cond.fieldLink RX11 151 "SpellTurner$WordRow" "count" "I", Cond.methodLink RX11 208 yX11_isStage, Cond.instanceMethod yX11_isStage, Cond.selects RX11 yX11_isStage yX11_isStage, Cond.initialized RX11, Cond.code yX11_isStage cX11_isStage 2 (some .boolean), Cond.fieldLink RX11 22 "SpellTurner" "reformCount" "I", Cond.methodLink RX11 211 yX0_fill, Cond.instanceMethod yX0_fill, Cond.selects RX0 yX0_fill yX0_fill, Cond.initialized RX0, Cond.code yX0_fill cX0_fill 7 none, Cond.fieldLink RX0 28 "SpellTurner$Book" "filled" "[I", Cond.fieldLink RX0 14 "SpellTurner$Book" "words" "LSpellTurner$WordRow;", Cond.fieldLink RX0 38 "SpellTurner$WordRow" "count" "I", Cond.fieldLink RX0 32 "SpellTurner$Book" "spare" "LSpellTurner$WordRow;", Cond.fieldLink RX0 42 "SpellTurner$WordRow" "letters" "[B", Cond.fieldLink RX0 46 "SpellTurner$WordRow" "width" "I", Cond.fieldLink RX0 49 "SpellTurner$WordRow" "lengths" "[I", Cond.fieldLink RX0 24 "SpellTurner$Book" "lawsUsed" "[J"]
def wsX11_rhymes_r2 : List Cond := [Cond.classLink RX0 9 RX10, Cond.instantiable RX10 4, Cond.initialized RX10, Cond.fieldLink RX0 20 "SpellTurner$Book" "forms" "[LSpellTurner$WordRow;", Cond.methodLink RX0 52 yX10_add, Cond.instanceMethod yX10_add, Cond.selects RX10 yX10_add yX10_add, Cond.code yX10_add cX10_add 4 none, Cond.fieldLink RX10 15 "SpellTurner$WordRow" "width" "I", Cond.fieldLink RX10 18 "SpellTurner$WordRow" "letters" "[B", Cond.fieldLink RX10 9 "SpellTurner$WordRow" "count" "I", Cond.methodLink RX10 30 arraycopyName, Cond.native arraycopyName, Cond.static arraycopyName, Cond.initialized "java/lang/System", Cond.fieldLink RX10 22 "SpellTurner$WordRow" "lengths" "[I", Cond.methodLink RX10 26 yX10_isFull, Cond.instanceMethod yX10_isFull, Cond.selects RX10 yX10_isFull yX10_isFull, Cond.code yX10_isFull cX10_isFull 1 (some .boolean), Cond.methodLink RX0 56 yX0_formsAt, Cond.instanceMethod yX0_formsAt, Cond.selects RX0 yX0_formsAt yX0_formsAt, Cond.code yX0_formsAt cX0_formsAt 4 (some (.object "SpellTurner$WordRow"))]
def wsX11_rhymes_r3 : List Cond := [Cond.fieldLink RX0 35 "SpellTurner$Book" "nothing" "LSpellTurner$WordRow;", Cond.methodLink RX0 60 yX9_turnForms, Cond.instanceMethod yX9_turnForms, Cond.selects RX9 yX9_turnForms yX9_turnForms, Cond.initialized RX9, Cond.code yX9_turnForms cX9_turnForms 7 (some .long), Cond.fieldLink RX9 53 "SpellTurner$WordRow" "count" "I", Cond.methodLink RX9 98 yX9_turnWord, Cond.instanceMethod yX9_turnWord, Cond.selects RX9 yX9_turnWord yX9_turnWord, Cond.code yX9_turnWord cX9_turnWord 11 (some .long), Cond.fieldLink RX9 59 "SpellTurner$WordRow" "width" "I", Cond.fieldLink RX9 62 "SpellTurner$WordRow" "lengths" "[I", Cond.fieldLink RX9 102 "SpellTurner$Reform" "entries" "LSpellTurner$WordRow;", Cond.fieldLink RX9 56 "SpellTurner$WordRow" "letters" "[B", Cond.fieldLink RX9 12 "SpellTurner$Turner" "partings" "LSpellTurner$Partings;", Cond.fieldLink RX9 48 "SpellTurner$Reform" "parts" "LSpellTurner$WordRow;", Cond.fieldLink RX9 116 "SpellTurner$Partings" "count" "I", Cond.fieldLink RX9 18 "SpellTurner$Turner" "now" "[B", Cond.fieldLink RX9 25 "SpellTurner$Turner" "length" "I", Cond.fieldLink RX9 29 "SpellTurner$Turner" "used" "J", Cond.methodLink RX9 105 yX10_find, Cond.instanceMethod yX10_find, Cond.selects RX10 yX10_find yX10_find]
def wsX11_rhymes_r4 : List Cond := [Cond.code yX10_find cX10_find 5 (some .int), Cond.methodLink RX10 44 yX10_same, Cond.static yX10_same, Cond.code yX10_same cX10_same 6 (some .boolean), Cond.methodLink RX9 109 yX9_addEntry, Cond.instanceMethod yX9_addEntry, Cond.selects RX9 yX9_addEntry yX9_addEntry, Cond.code yX9_addEntry cX9_addEntry 5 none, Cond.fieldLink RX9 125 "SpellTurner$Reform" "becomes" "LSpellTurner$WordRow;", Cond.methodLink RX9 121 yX5_isKept, Cond.instanceMethod yX5_isKept, Cond.selects RX5 yX5_isKept yX5_isKept, Cond.initialized RX5, Cond.code yX5_isKept cX5_isKept 2 (some .boolean), Cond.fieldLink RX5 39 "SpellTurner$Reform" "kept" "[Z", Cond.methodLink RX9 85 yX10_addForm, Cond.instanceMethod yX10_addForm, Cond.selects RX10 yX10_addForm yX10_addForm, Cond.code yX10_addForm cX10_addForm 4 none, Cond.methodLink RX10 36 yX10_find, Cond.methodLink RX10 40 yX10_add, Cond.methodLink RX9 113 yX3_find, Cond.instanceMethod yX3_find, Cond.selects RX3 yX3_find yX3_find]
def wsX11_rhymes_r5 : List Cond := [Cond.initialized RX3, Cond.code yX3_find cX3_find 6 none, Cond.fieldLink RX3 9 "SpellTurner$Partings" "count" "I", Cond.fieldLink RX3 38 "SpellTurner$Partings" "parts" "LSpellTurner$WordRow;", Cond.fieldLink RX3 42 "SpellTurner$WordRow" "count" "I", Cond.fieldLink RX3 26 "SpellTurner$Partings" "closes" "[Z", Cond.methodLink RX3 43 yX3_markFitting, Cond.instanceMethod yX3_markFitting, Cond.selects RX3 yX3_markFitting yX3_markFitting, Cond.code yX3_markFitting cX3_markFitting 7 none, Cond.fieldLink RX3 23 "SpellTurner$Partings" "fitting" "[B", Cond.fieldLink RX3 55 "SpellTurner$WordRow" "lengths" "[I", Cond.methodLink RX3 58 yJ7_fill_eb02e, Cond.static yJ7_fill_eb02e, Cond.initialized RJ7, Cond.code yJ7_fill_eb02e cJ7_fill_eb02e 5 none, Cond.methodLink RJ7 13 yJ7_rangeCheck_23922, Cond.static yJ7_rangeCheck_23922, Cond.code yJ7_rangeCheck_23922 cJ7_rangeCheck_23922 3 none, Cond.methodLink RX3 64 yX10_standsIn, Cond.instanceMethod yX10_standsIn, Cond.selects RX10 yX10_standsIn yX10_standsIn, Cond.code yX10_standsIn cX10_standsIn 4 (some .boolean), Cond.methodLink RX3 47 yX3_walk]
def wsX11_rhymes_r6 : List Cond := [Cond.instanceMethod yX3_walk, Cond.selects RX3 yX3_walk yX3_walk, Cond.code yX3_walk cX3_walk 6 none, Cond.fieldLink RX3 30 "SpellTurner$Partings" "path" "[B", Cond.methodLink RX3 68 yX3_note, Cond.instanceMethod yX3_note, Cond.selects RX3 yX3_note yX3_note, Cond.code yX3_note cX3_note 2 none, Cond.fieldLink RX3 19 "SpellTurner$Partings" "picks" "[B", Cond.methodLink RX3 72 arraycopyName, Cond.fieldLink RX3 15 "SpellTurner$Partings" "sizes" "[I", Cond.methodLink RX9 66 yX9_runLaws, Cond.instanceMethod yX9_runLaws, Cond.selects RX9 yX9_runLaws yX9_runLaws, Cond.code yX9_runLaws cX9_runLaws 7 (some .boolean), Cond.methodLink RX9 140 Lib.Math.min.name, Cond.static Lib.Math.min.name, Cond.initialized "java/lang/Math", Cond.code Lib.Math.min.name Lib.Math.min.code 2 (some .int), Cond.methodLink RX9 134 arraycopyName, Cond.fieldLink RX9 143 "SpellTurner$Reform" "lawCount" "I", Cond.fieldLink RX9 146 "SpellTurner$Reform" "laws" "[LSpellTurner$Law;", Cond.methodLink RX9 150 yX9_apply, Cond.instanceMethod yX9_apply]
def wsX11_rhymes_r7 : List Cond := [Cond.selects RX9 yX9_apply yX9_apply, Cond.code yX9_apply cX9_apply 5 (some .boolean), Cond.fieldLink RX9 22 "SpellTurner$Turner" "next" "[B", Cond.fieldLink RX9 160 "SpellTurner$Law" "second" "[B", Cond.fieldLink RX9 163 "SpellTurner$Law" "first" "[B", Cond.methodLink RX9 88 Lib.Math.max.name, Cond.static Lib.Math.max.name, Cond.code Lib.Math.max.name Lib.Math.max.code 2 (some .int), Cond.methodLink RX9 154 yX1_standsAt, Cond.instanceMethod yX1_standsAt, Cond.selects RX1 yX1_standsAt yX1_standsAt, Cond.initialized RX1, Cond.code yX1_standsAt cX1_standsAt 7 (some .boolean), Cond.fieldLink RX1 23 "SpellTurner$Law" "first" "[B", Cond.fieldLink RX1 16 "SpellTurner$Law" "atStart" "Z", Cond.fieldLink RX1 20 "SpellTurner$Law" "atEnd" "Z", Cond.fieldLink RX1 7 "SpellTurner$Law" "ahead" "[B", Cond.fieldLink RX1 13 "SpellTurner$Law" "behind" "[B", Cond.methodLink RX1 29 yX10_same, Cond.methodLink RX9 117 yX9_turnParting, Cond.instanceMethod yX9_turnParting, Cond.selects RX9 yX9_turnParting yX9_turnParting, Cond.code yX9_turnParting cX9_turnParting 10 (some .long), Cond.fieldLink RX9 78 "SpellTurner$Reform" "turnedParts" "LSpellTurner$WordRow;"]
def wsX11_rhymes_r8 : List Cond := [Cond.fieldLink RX9 128 "SpellTurner$Partings" "sizes" "[I", Cond.fieldLink RX9 74 "SpellTurner$Reform" "partUses" "[J", Cond.fieldLink RX9 70 "SpellTurner$Reform" "partHolds" "[Z", Cond.fieldLink RX9 33 "SpellTurner$Turner" "whole" "[B", Cond.methodLink RX9 131 yX3_pick, Cond.instanceMethod yX3_pick, Cond.selects RX3 yX3_pick yX3_pick, Cond.code yX3_pick cX3_pick 3 (some .int), Cond.methodLink RX0 11 yX10_init, Cond.instanceMethod yX10_init, Cond.code yX10_init cX10_init 3 none, Cond.methodLink RX10 3 objectInit, Cond.instanceMethod objectInit, Cond.code objectInit ⟨#[0xb1]⟩ 1 none, Cond.arrayClass .byte, Cond.arrayClass .int, Cond.methodLink RX0 66 yX10_copy, Cond.instanceMethod yX10_copy, Cond.selects RX10 yX10_copy yX10_copy, Cond.code yX10_copy cX10_copy 3 none, Cond.methodLink RX11 226 yX10_endsAlike, Cond.instanceMethod yX10_endsAlike, Cond.selects RX10 yX10_endsAlike yX10_endsAlike, Cond.code yX10_endsAlike cX10_endsAlike 6 (some .boolean)]
def wsX11_rhymes_r9 : List Cond := [Cond.methodLink RX11 230 yX0_formsRhyme, Cond.instanceMethod yX0_formsRhyme, Cond.selects RX0 yX0_formsRhyme yX0_formsRhyme, Cond.code yX0_formsRhyme cX0_formsRhyme 8 (some .boolean), Cond.methodLink RX0 74 yX10_endsAlike]
def wsX11_rhymes : List Cond := .code yX11_rhymes cX11_rhymes 5 (some .int) :: ((wsX11_rhymes_r1 ++ (wsX11_rhymes_r2 ++ (wsX11_rhymes_r3 ++ (wsX11_rhymes_r4 ++ (wsX11_rhymes_r5 ++ (wsX11_rhymes_r6 ++ (wsX11_rhymes_r7 ++ (wsX11_rhymes_r8 ++ wsX11_rhymes_r9)))))))) ++ wsX110 ++ wsX00 ++ wsX100 ++ wsX50 ++ wsX90 ++ wsX30 ++ wsX10)
def wsX11_tell_r1 : List Cond := [Cond.fieldLink RX11 67 "SpellTurner" "book" "LSpellTurner$Book;", Cond.fieldLink RX11 18 "SpellTurner" "reforms" "[LSpellTurner$Reform;", Cond.fieldLink RX11 44 "SpellTurner" "turner" "LSpellTurner$Turner;", Cond.fieldLink RX11 197 "SpellTurner$Book" "words" "LSpellTurner$WordRow;", Cond.fieldLink RX11 151 "SpellTurner$WordRow" "count" "I", Cond.methodLink RX11 208 yX11_isStage, Cond.instanceMethod yX11_isStage, Cond.selects RX11 yX11_isStage yX11_isStage, Cond.initialized RX11, Cond.code yX11_isStage cX11_isStage 2 (some .boolean), Cond.fieldLink RX11 22 "SpellTurner" "reformCount" "I", Cond.methodLink RX11 211 yX0_fill, Cond.instanceMethod yX0_fill, Cond.selects RX0 yX0_fill yX0_fill, Cond.initialized RX0, Cond.code yX0_fill cX0_fill 7 none, Cond.fieldLink RX0 28 "SpellTurner$Book" "filled" "[I", Cond.fieldLink RX0 14 "SpellTurner$Book" "words" "LSpellTurner$WordRow;", Cond.fieldLink RX0 38 "SpellTurner$WordRow" "count" "I", Cond.fieldLink RX0 32 "SpellTurner$Book" "spare" "LSpellTurner$WordRow;", Cond.fieldLink RX0 42 "SpellTurner$WordRow" "letters" "[B", Cond.fieldLink RX0 46 "SpellTurner$WordRow" "width" "I", Cond.fieldLink RX0 49 "SpellTurner$WordRow" "lengths" "[I", Cond.fieldLink RX0 24 "SpellTurner$Book" "lawsUsed" "[J"]
def wsX11_tell_r2 : List Cond := [Cond.classLink RX0 9 RX10, Cond.instantiable RX10 4, Cond.initialized RX10, Cond.fieldLink RX0 20 "SpellTurner$Book" "forms" "[LSpellTurner$WordRow;", Cond.methodLink RX0 52 yX10_add, Cond.instanceMethod yX10_add, Cond.selects RX10 yX10_add yX10_add, Cond.code yX10_add cX10_add 4 none, Cond.fieldLink RX10 15 "SpellTurner$WordRow" "width" "I", Cond.fieldLink RX10 18 "SpellTurner$WordRow" "letters" "[B", Cond.fieldLink RX10 9 "SpellTurner$WordRow" "count" "I", Cond.methodLink RX10 30 arraycopyName, Cond.native arraycopyName, Cond.static arraycopyName, Cond.initialized "java/lang/System", Cond.fieldLink RX10 22 "SpellTurner$WordRow" "lengths" "[I", Cond.methodLink RX10 26 yX10_isFull, Cond.instanceMethod yX10_isFull, Cond.selects RX10 yX10_isFull yX10_isFull, Cond.code yX10_isFull cX10_isFull 1 (some .boolean), Cond.methodLink RX0 56 yX0_formsAt, Cond.instanceMethod yX0_formsAt, Cond.selects RX0 yX0_formsAt yX0_formsAt, Cond.code yX0_formsAt cX0_formsAt 4 (some (.object "SpellTurner$WordRow"))]
def wsX11_tell_r3 : List Cond := [Cond.fieldLink RX0 35 "SpellTurner$Book" "nothing" "LSpellTurner$WordRow;", Cond.methodLink RX0 60 yX9_turnForms, Cond.instanceMethod yX9_turnForms, Cond.selects RX9 yX9_turnForms yX9_turnForms, Cond.initialized RX9, Cond.code yX9_turnForms cX9_turnForms 7 (some .long), Cond.fieldLink RX9 53 "SpellTurner$WordRow" "count" "I", Cond.methodLink RX9 98 yX9_turnWord, Cond.instanceMethod yX9_turnWord, Cond.selects RX9 yX9_turnWord yX9_turnWord, Cond.code yX9_turnWord cX9_turnWord 11 (some .long), Cond.fieldLink RX9 59 "SpellTurner$WordRow" "width" "I", Cond.fieldLink RX9 62 "SpellTurner$WordRow" "lengths" "[I", Cond.fieldLink RX9 102 "SpellTurner$Reform" "entries" "LSpellTurner$WordRow;", Cond.fieldLink RX9 56 "SpellTurner$WordRow" "letters" "[B", Cond.fieldLink RX9 12 "SpellTurner$Turner" "partings" "LSpellTurner$Partings;", Cond.fieldLink RX9 48 "SpellTurner$Reform" "parts" "LSpellTurner$WordRow;", Cond.fieldLink RX9 116 "SpellTurner$Partings" "count" "I", Cond.fieldLink RX9 18 "SpellTurner$Turner" "now" "[B", Cond.fieldLink RX9 25 "SpellTurner$Turner" "length" "I", Cond.fieldLink RX9 29 "SpellTurner$Turner" "used" "J", Cond.methodLink RX9 105 yX10_find, Cond.instanceMethod yX10_find, Cond.selects RX10 yX10_find yX10_find]
def wsX11_tell_r4 : List Cond := [Cond.code yX10_find cX10_find 5 (some .int), Cond.methodLink RX10 44 yX10_same, Cond.static yX10_same, Cond.code yX10_same cX10_same 6 (some .boolean), Cond.methodLink RX9 109 yX9_addEntry, Cond.instanceMethod yX9_addEntry, Cond.selects RX9 yX9_addEntry yX9_addEntry, Cond.code yX9_addEntry cX9_addEntry 5 none, Cond.fieldLink RX9 125 "SpellTurner$Reform" "becomes" "LSpellTurner$WordRow;", Cond.methodLink RX9 121 yX5_isKept, Cond.instanceMethod yX5_isKept, Cond.selects RX5 yX5_isKept yX5_isKept, Cond.initialized RX5, Cond.code yX5_isKept cX5_isKept 2 (some .boolean), Cond.fieldLink RX5 39 "SpellTurner$Reform" "kept" "[Z", Cond.methodLink RX9 85 yX10_addForm, Cond.instanceMethod yX10_addForm, Cond.selects RX10 yX10_addForm yX10_addForm, Cond.code yX10_addForm cX10_addForm 4 none, Cond.methodLink RX10 36 yX10_find, Cond.methodLink RX10 40 yX10_add, Cond.methodLink RX9 113 yX3_find, Cond.instanceMethod yX3_find, Cond.selects RX3 yX3_find yX3_find]
def wsX11_tell_r5 : List Cond := [Cond.initialized RX3, Cond.code yX3_find cX3_find 6 none, Cond.fieldLink RX3 9 "SpellTurner$Partings" "count" "I", Cond.fieldLink RX3 38 "SpellTurner$Partings" "parts" "LSpellTurner$WordRow;", Cond.fieldLink RX3 42 "SpellTurner$WordRow" "count" "I", Cond.fieldLink RX3 26 "SpellTurner$Partings" "closes" "[Z", Cond.methodLink RX3 43 yX3_markFitting, Cond.instanceMethod yX3_markFitting, Cond.selects RX3 yX3_markFitting yX3_markFitting, Cond.code yX3_markFitting cX3_markFitting 7 none, Cond.fieldLink RX3 23 "SpellTurner$Partings" "fitting" "[B", Cond.fieldLink RX3 55 "SpellTurner$WordRow" "lengths" "[I", Cond.methodLink RX3 58 yJ7_fill_eb02e, Cond.static yJ7_fill_eb02e, Cond.initialized RJ7, Cond.code yJ7_fill_eb02e cJ7_fill_eb02e 5 none, Cond.methodLink RJ7 13 yJ7_rangeCheck_23922, Cond.static yJ7_rangeCheck_23922, Cond.code yJ7_rangeCheck_23922 cJ7_rangeCheck_23922 3 none, Cond.methodLink RX3 64 yX10_standsIn, Cond.instanceMethod yX10_standsIn, Cond.selects RX10 yX10_standsIn yX10_standsIn, Cond.code yX10_standsIn cX10_standsIn 4 (some .boolean), Cond.methodLink RX3 47 yX3_walk]
def wsX11_tell_r6 : List Cond := [Cond.instanceMethod yX3_walk, Cond.selects RX3 yX3_walk yX3_walk, Cond.code yX3_walk cX3_walk 6 none, Cond.fieldLink RX3 30 "SpellTurner$Partings" "path" "[B", Cond.methodLink RX3 68 yX3_note, Cond.instanceMethod yX3_note, Cond.selects RX3 yX3_note yX3_note, Cond.code yX3_note cX3_note 2 none, Cond.fieldLink RX3 19 "SpellTurner$Partings" "picks" "[B", Cond.methodLink RX3 72 arraycopyName, Cond.fieldLink RX3 15 "SpellTurner$Partings" "sizes" "[I", Cond.methodLink RX9 66 yX9_runLaws, Cond.instanceMethod yX9_runLaws, Cond.selects RX9 yX9_runLaws yX9_runLaws, Cond.code yX9_runLaws cX9_runLaws 7 (some .boolean), Cond.methodLink RX9 140 Lib.Math.min.name, Cond.static Lib.Math.min.name, Cond.initialized "java/lang/Math", Cond.code Lib.Math.min.name Lib.Math.min.code 2 (some .int), Cond.methodLink RX9 134 arraycopyName, Cond.fieldLink RX9 143 "SpellTurner$Reform" "lawCount" "I", Cond.fieldLink RX9 146 "SpellTurner$Reform" "laws" "[LSpellTurner$Law;", Cond.methodLink RX9 150 yX9_apply, Cond.instanceMethod yX9_apply]
def wsX11_tell_r7 : List Cond := [Cond.selects RX9 yX9_apply yX9_apply, Cond.code yX9_apply cX9_apply 5 (some .boolean), Cond.fieldLink RX9 22 "SpellTurner$Turner" "next" "[B", Cond.fieldLink RX9 160 "SpellTurner$Law" "second" "[B", Cond.fieldLink RX9 163 "SpellTurner$Law" "first" "[B", Cond.methodLink RX9 88 Lib.Math.max.name, Cond.static Lib.Math.max.name, Cond.code Lib.Math.max.name Lib.Math.max.code 2 (some .int), Cond.methodLink RX9 154 yX1_standsAt, Cond.instanceMethod yX1_standsAt, Cond.selects RX1 yX1_standsAt yX1_standsAt, Cond.initialized RX1, Cond.code yX1_standsAt cX1_standsAt 7 (some .boolean), Cond.fieldLink RX1 23 "SpellTurner$Law" "first" "[B", Cond.fieldLink RX1 16 "SpellTurner$Law" "atStart" "Z", Cond.fieldLink RX1 20 "SpellTurner$Law" "atEnd" "Z", Cond.fieldLink RX1 7 "SpellTurner$Law" "ahead" "[B", Cond.fieldLink RX1 13 "SpellTurner$Law" "behind" "[B", Cond.methodLink RX1 29 yX10_same, Cond.methodLink RX9 117 yX9_turnParting, Cond.instanceMethod yX9_turnParting, Cond.selects RX9 yX9_turnParting yX9_turnParting, Cond.code yX9_turnParting cX9_turnParting 10 (some .long), Cond.fieldLink RX9 78 "SpellTurner$Reform" "turnedParts" "LSpellTurner$WordRow;"]
def wsX11_tell_r8 : List Cond := [Cond.fieldLink RX9 128 "SpellTurner$Partings" "sizes" "[I", Cond.fieldLink RX9 74 "SpellTurner$Reform" "partUses" "[J", Cond.fieldLink RX9 70 "SpellTurner$Reform" "partHolds" "[Z", Cond.fieldLink RX9 33 "SpellTurner$Turner" "whole" "[B", Cond.methodLink RX9 131 yX3_pick, Cond.instanceMethod yX3_pick, Cond.selects RX3 yX3_pick yX3_pick, Cond.code yX3_pick cX3_pick 3 (some .int), Cond.methodLink RX0 11 yX10_init, Cond.instanceMethod yX10_init, Cond.code yX10_init cX10_init 3 none, Cond.methodLink RX10 3 objectInit, Cond.instanceMethod objectInit, Cond.code objectInit ⟨#[0xb1]⟩ 1 none, Cond.arrayClass .byte, Cond.arrayClass .int, Cond.methodLink RX0 66 yX10_copy, Cond.instanceMethod yX10_copy, Cond.selects RX10 yX10_copy yX10_copy, Cond.code yX10_copy cX10_copy 3 none, Cond.methodLink RX11 233 yX0_isSuch, Cond.instanceMethod yX0_isSuch, Cond.selects RX0 yX0_isSuch yX0_isSuch, Cond.code yX0_isSuch cX0_isSuch 5 (some .boolean)]
def wsX11_tell_r9 : List Cond := [Cond.methodLink RX0 70 yX10_find]
def wsX11_tell : List Cond := .code yX11_tell cX11_tell 5 (some .int) :: ((wsX11_tell_r1 ++ (wsX11_tell_r2 ++ (wsX11_tell_r3 ++ (wsX11_tell_r4 ++ (wsX11_tell_r5 ++ (wsX11_tell_r6 ++ (wsX11_tell_r7 ++ (wsX11_tell_r8 ++ wsX11_tell_r9)))))))) ++ wsX110 ++ wsX00 ++ wsX100 ++ wsX50 ++ wsX90 ++ wsX30 ++ wsX10)
def wsX11_uses_r1 : List Cond := [Cond.fieldLink RX11 145 "SpellTurner$Reform" "lawCount" "I", Cond.fieldLink RX11 67 "SpellTurner" "book" "LSpellTurner$Book;", Cond.fieldLink RX11 18 "SpellTurner" "reforms" "[LSpellTurner$Reform;", Cond.fieldLink RX11 44 "SpellTurner" "turner" "LSpellTurner$Turner;", Cond.fieldLink RX11 197 "SpellTurner$Book" "words" "LSpellTurner$WordRow;", Cond.fieldLink RX11 151 "SpellTurner$WordRow" "count" "I", Cond.methodLink RX11 138 yX11_reformAt, Cond.instanceMethod yX11_reformAt, Cond.selects RX11 yX11_reformAt yX11_reformAt, Cond.initialized RX11, Cond.code yX11_reformAt cX11_reformAt 2 (some (.object "SpellTurner$Reform")), Cond.fieldLink RX11 22 "SpellTurner" "reformCount" "I", Cond.methodLink RX11 211 yX0_fill, Cond.instanceMethod yX0_fill, Cond.selects RX0 yX0_fill yX0_fill, Cond.initialized RX0, Cond.code yX0_fill cX0_fill 7 none, Cond.fieldLink RX0 28 "SpellTurner$Book" "filled" "[I", Cond.fieldLink RX0 14 "SpellTurner$Book" "words" "LSpellTurner$WordRow;", Cond.fieldLink RX0 38 "SpellTurner$WordRow" "count" "I", Cond.fieldLink RX0 32 "SpellTurner$Book" "spare" "LSpellTurner$WordRow;", Cond.fieldLink RX0 42 "SpellTurner$WordRow" "letters" "[B", Cond.fieldLink RX0 46 "SpellTurner$WordRow" "width" "I", Cond.fieldLink RX0 49 "SpellTurner$WordRow" "lengths" "[I"]
def wsX11_uses_r2 : List Cond := [Cond.fieldLink RX0 24 "SpellTurner$Book" "lawsUsed" "[J", Cond.classLink RX0 9 RX10, Cond.instantiable RX10 4, Cond.initialized RX10, Cond.fieldLink RX0 20 "SpellTurner$Book" "forms" "[LSpellTurner$WordRow;", Cond.methodLink RX0 52 yX10_add, Cond.instanceMethod yX10_add, Cond.selects RX10 yX10_add yX10_add, Cond.code yX10_add cX10_add 4 none, Cond.fieldLink RX10 15 "SpellTurner$WordRow" "width" "I", Cond.fieldLink RX10 18 "SpellTurner$WordRow" "letters" "[B", Cond.fieldLink RX10 9 "SpellTurner$WordRow" "count" "I", Cond.methodLink RX10 30 arraycopyName, Cond.native arraycopyName, Cond.static arraycopyName, Cond.initialized "java/lang/System", Cond.fieldLink RX10 22 "SpellTurner$WordRow" "lengths" "[I", Cond.methodLink RX10 26 yX10_isFull, Cond.instanceMethod yX10_isFull, Cond.selects RX10 yX10_isFull yX10_isFull, Cond.code yX10_isFull cX10_isFull 1 (some .boolean), Cond.methodLink RX0 56 yX0_formsAt, Cond.instanceMethod yX0_formsAt, Cond.selects RX0 yX0_formsAt yX0_formsAt]
def wsX11_uses_r3 : List Cond := [Cond.code yX0_formsAt cX0_formsAt 4 (some (.object "SpellTurner$WordRow")), Cond.fieldLink RX0 35 "SpellTurner$Book" "nothing" "LSpellTurner$WordRow;", Cond.methodLink RX0 60 yX9_turnForms, Cond.instanceMethod yX9_turnForms, Cond.selects RX9 yX9_turnForms yX9_turnForms, Cond.initialized RX9, Cond.code yX9_turnForms cX9_turnForms 7 (some .long), Cond.fieldLink RX9 53 "SpellTurner$WordRow" "count" "I", Cond.methodLink RX9 98 yX9_turnWord, Cond.instanceMethod yX9_turnWord, Cond.selects RX9 yX9_turnWord yX9_turnWord, Cond.code yX9_turnWord cX9_turnWord 11 (some .long), Cond.fieldLink RX9 59 "SpellTurner$WordRow" "width" "I", Cond.fieldLink RX9 62 "SpellTurner$WordRow" "lengths" "[I", Cond.fieldLink RX9 102 "SpellTurner$Reform" "entries" "LSpellTurner$WordRow;", Cond.fieldLink RX9 56 "SpellTurner$WordRow" "letters" "[B", Cond.fieldLink RX9 12 "SpellTurner$Turner" "partings" "LSpellTurner$Partings;", Cond.fieldLink RX9 48 "SpellTurner$Reform" "parts" "LSpellTurner$WordRow;", Cond.fieldLink RX9 116 "SpellTurner$Partings" "count" "I", Cond.fieldLink RX9 18 "SpellTurner$Turner" "now" "[B", Cond.fieldLink RX9 25 "SpellTurner$Turner" "length" "I", Cond.fieldLink RX9 29 "SpellTurner$Turner" "used" "J", Cond.methodLink RX9 105 yX10_find, Cond.instanceMethod yX10_find]
def wsX11_uses_r4 : List Cond := [Cond.selects RX10 yX10_find yX10_find, Cond.code yX10_find cX10_find 5 (some .int), Cond.methodLink RX10 44 yX10_same, Cond.static yX10_same, Cond.code yX10_same cX10_same 6 (some .boolean), Cond.methodLink RX9 109 yX9_addEntry, Cond.instanceMethod yX9_addEntry, Cond.selects RX9 yX9_addEntry yX9_addEntry, Cond.code yX9_addEntry cX9_addEntry 5 none, Cond.fieldLink RX9 125 "SpellTurner$Reform" "becomes" "LSpellTurner$WordRow;", Cond.methodLink RX9 121 yX5_isKept, Cond.instanceMethod yX5_isKept, Cond.selects RX5 yX5_isKept yX5_isKept, Cond.initialized RX5, Cond.code yX5_isKept cX5_isKept 2 (some .boolean), Cond.fieldLink RX5 39 "SpellTurner$Reform" "kept" "[Z", Cond.methodLink RX9 85 yX10_addForm, Cond.instanceMethod yX10_addForm, Cond.selects RX10 yX10_addForm yX10_addForm, Cond.code yX10_addForm cX10_addForm 4 none, Cond.methodLink RX10 36 yX10_find, Cond.methodLink RX10 40 yX10_add, Cond.methodLink RX9 113 yX3_find, Cond.instanceMethod yX3_find]
def wsX11_uses_r5 : List Cond := [Cond.selects RX3 yX3_find yX3_find, Cond.initialized RX3, Cond.code yX3_find cX3_find 6 none, Cond.fieldLink RX3 9 "SpellTurner$Partings" "count" "I", Cond.fieldLink RX3 38 "SpellTurner$Partings" "parts" "LSpellTurner$WordRow;", Cond.fieldLink RX3 42 "SpellTurner$WordRow" "count" "I", Cond.fieldLink RX3 26 "SpellTurner$Partings" "closes" "[Z", Cond.methodLink RX3 43 yX3_markFitting, Cond.instanceMethod yX3_markFitting, Cond.selects RX3 yX3_markFitting yX3_markFitting, Cond.code yX3_markFitting cX3_markFitting 7 none, Cond.fieldLink RX3 23 "SpellTurner$Partings" "fitting" "[B", Cond.fieldLink RX3 55 "SpellTurner$WordRow" "lengths" "[I", Cond.methodLink RX3 58 yJ7_fill_eb02e, Cond.static yJ7_fill_eb02e, Cond.initialized RJ7, Cond.code yJ7_fill_eb02e cJ7_fill_eb02e 5 none, Cond.methodLink RJ7 13 yJ7_rangeCheck_23922, Cond.static yJ7_rangeCheck_23922, Cond.code yJ7_rangeCheck_23922 cJ7_rangeCheck_23922 3 none, Cond.methodLink RX3 64 yX10_standsIn, Cond.instanceMethod yX10_standsIn, Cond.selects RX10 yX10_standsIn yX10_standsIn, Cond.code yX10_standsIn cX10_standsIn 4 (some .boolean)]
def wsX11_uses_r6 : List Cond := [Cond.methodLink RX3 47 yX3_walk, Cond.instanceMethod yX3_walk, Cond.selects RX3 yX3_walk yX3_walk, Cond.code yX3_walk cX3_walk 6 none, Cond.fieldLink RX3 30 "SpellTurner$Partings" "path" "[B", Cond.methodLink RX3 68 yX3_note, Cond.instanceMethod yX3_note, Cond.selects RX3 yX3_note yX3_note, Cond.code yX3_note cX3_note 2 none, Cond.fieldLink RX3 19 "SpellTurner$Partings" "picks" "[B", Cond.methodLink RX3 72 arraycopyName, Cond.fieldLink RX3 15 "SpellTurner$Partings" "sizes" "[I", Cond.methodLink RX9 66 yX9_runLaws, Cond.instanceMethod yX9_runLaws, Cond.selects RX9 yX9_runLaws yX9_runLaws, Cond.code yX9_runLaws cX9_runLaws 7 (some .boolean), Cond.methodLink RX9 140 Lib.Math.min.name, Cond.static Lib.Math.min.name, Cond.initialized "java/lang/Math", Cond.code Lib.Math.min.name Lib.Math.min.code 2 (some .int), Cond.methodLink RX9 134 arraycopyName, Cond.fieldLink RX9 143 "SpellTurner$Reform" "lawCount" "I", Cond.fieldLink RX9 146 "SpellTurner$Reform" "laws" "[LSpellTurner$Law;", Cond.methodLink RX9 150 yX9_apply]
def wsX11_uses_r7 : List Cond := [Cond.instanceMethod yX9_apply, Cond.selects RX9 yX9_apply yX9_apply, Cond.code yX9_apply cX9_apply 5 (some .boolean), Cond.fieldLink RX9 22 "SpellTurner$Turner" "next" "[B", Cond.fieldLink RX9 160 "SpellTurner$Law" "second" "[B", Cond.fieldLink RX9 163 "SpellTurner$Law" "first" "[B", Cond.methodLink RX9 88 Lib.Math.max.name, Cond.static Lib.Math.max.name, Cond.code Lib.Math.max.name Lib.Math.max.code 2 (some .int), Cond.methodLink RX9 154 yX1_standsAt, Cond.instanceMethod yX1_standsAt, Cond.selects RX1 yX1_standsAt yX1_standsAt, Cond.initialized RX1, Cond.code yX1_standsAt cX1_standsAt 7 (some .boolean), Cond.fieldLink RX1 23 "SpellTurner$Law" "first" "[B", Cond.fieldLink RX1 16 "SpellTurner$Law" "atStart" "Z", Cond.fieldLink RX1 20 "SpellTurner$Law" "atEnd" "Z", Cond.fieldLink RX1 7 "SpellTurner$Law" "ahead" "[B", Cond.fieldLink RX1 13 "SpellTurner$Law" "behind" "[B", Cond.methodLink RX1 29 yX10_same, Cond.methodLink RX9 117 yX9_turnParting, Cond.instanceMethod yX9_turnParting, Cond.selects RX9 yX9_turnParting yX9_turnParting, Cond.code yX9_turnParting cX9_turnParting 10 (some .long)]
def wsX11_uses_r8 : List Cond := [Cond.fieldLink RX9 78 "SpellTurner$Reform" "turnedParts" "LSpellTurner$WordRow;", Cond.fieldLink RX9 128 "SpellTurner$Partings" "sizes" "[I", Cond.fieldLink RX9 74 "SpellTurner$Reform" "partUses" "[J", Cond.fieldLink RX9 70 "SpellTurner$Reform" "partHolds" "[Z", Cond.fieldLink RX9 33 "SpellTurner$Turner" "whole" "[B", Cond.methodLink RX9 131 yX3_pick, Cond.instanceMethod yX3_pick, Cond.selects RX3 yX3_pick yX3_pick, Cond.code yX3_pick cX3_pick 3 (some .int), Cond.methodLink RX0 11 yX10_init, Cond.instanceMethod yX10_init, Cond.code yX10_init cX10_init 3 none, Cond.methodLink RX10 3 objectInit, Cond.instanceMethod objectInit, Cond.code objectInit ⟨#[0xb1]⟩ 1 none, Cond.arrayClass .byte, Cond.arrayClass .int, Cond.methodLink RX0 66 yX10_copy, Cond.instanceMethod yX10_copy, Cond.selects RX10 yX10_copy yX10_copy, Cond.code yX10_copy cX10_copy 3 none, Cond.methodLink RX11 236 yX0_usesLaw, Cond.instanceMethod yX0_usesLaw, Cond.selects RX0 yX0_usesLaw yX0_usesLaw]
def wsX11_uses_r9 : List Cond := [Cond.code yX0_usesLaw cX0_usesLaw 4 (some .boolean)]
def wsX11_uses : List Cond := .code yX11_uses cX11_uses 6 (some .int) :: ((wsX11_uses_r1 ++ (wsX11_uses_r2 ++ (wsX11_uses_r3 ++ (wsX11_uses_r4 ++ (wsX11_uses_r5 ++ (wsX11_uses_r6 ++ (wsX11_uses_r7 ++ (wsX11_uses_r8 ++ wsX11_uses_r9)))))))) ++ wsX50 ++ wsX110 ++ wsX00 ++ wsX100 ++ wsX90 ++ wsX30 ++ wsX10)
def wsX11_write_r1 : List Cond := [Cond.fieldLink RX11 12 "SpellTurner" "tape" "LSpellTurner$Tape;", Cond.fieldLink RX11 87 "SpellTurner" "textWords" "LSpellTurner$TextWords;", Cond.fieldLink RX11 120 "SpellTurner$Tape" "bytes" "[B", Cond.fieldLink RX11 94 "SpellTurner" "scribe" "LSpellTurner$Scribe;", Cond.fieldLink RX11 251 "SpellTurner$TextWords" "isName" "Z", Cond.fieldLink RX11 258 "SpellTurner$TextWords" "length" "I", Cond.fieldLink RX11 44 "SpellTurner" "turner" "LSpellTurner$Turner;", Cond.fieldLink RX11 18 "SpellTurner" "reforms" "[LSpellTurner$Reform;", Cond.fieldLink RX11 262 "SpellTurner$TextWords" "start" "I", Cond.methodLink RX11 112 yX7_take, Cond.instanceMethod yX7_take, Cond.selects RX7 yX7_take yX7_take, Cond.initialized RX7, Cond.code yX7_take cX7_take 2 (some .int), Cond.fieldLink RX7 15 "SpellTurner$Tape" "length" "I", Cond.methodLink RX11 160 yX11_areStages, Cond.instanceMethod yX11_areStages, Cond.selects RX11 yX11_areStages yX11_areStages, Cond.initialized RX11, Cond.code yX11_areStages cX11_areStages 3 (some .boolean), Cond.methodLink RX11 208 yX11_isStage, Cond.instanceMethod yX11_isStage, Cond.selects RX11 yX11_isStage yX11_isStage, Cond.code yX11_isStage cX11_isStage 2 (some .boolean)]
def wsX11_write_r2 : List Cond := [Cond.fieldLink RX11 22 "SpellTurner" "reformCount" "I", Cond.methodLink RX11 239 yX7_hasZero, Cond.instanceMethod yX7_hasZero, Cond.selects RX7 yX7_hasZero yX7_hasZero, Cond.code yX7_hasZero cX7_hasZero 2 (some .boolean), Cond.methodLink RX7 25 yX7_occurrences, Cond.instanceMethod yX7_occurrences, Cond.selects RX7 yX7_occurrences yX7_occurrences, Cond.code yX7_occurrences cX7_occurrences 5 (some .int), Cond.fieldLink RX7 9 "SpellTurner$Tape" "bytes" "[B", Cond.methodLink RX11 242 yX8_begin, Cond.instanceMethod yX8_begin, Cond.selects RX8 yX8_begin yX8_begin, Cond.initialized RX8, Cond.code yX8_begin cX8_begin 3 none, Cond.fieldLink RX8 25 "SpellTurner$TextWords" "text" "[B", Cond.methodLink RX8 38 Lib.Math.min.name, Cond.static Lib.Math.min.name, Cond.initialized "java/lang/Math", Cond.code Lib.Math.min.name Lib.Math.min.code 2 (some .int), Cond.fieldLink RX8 29 "SpellTurner$TextWords" "size" "I", Cond.fieldLink RX8 32 "SpellTurner$TextWords" "at" "I", Cond.fieldLink RX8 18 "SpellTurner$TextWords" "lineNumber" "I", Cond.fieldLink RX8 35 "SpellTurner$TextWords" "quoted" "Z"]
def wsX11_write_r3 : List Cond := [Cond.methodLink RX11 246 yX6_begin, Cond.instanceMethod yX6_begin, Cond.selects RX6 yX6_begin yX6_begin, Cond.initialized RX6, Cond.code yX6_begin cX6_begin 1 none, Cond.fieldLink RX6 22 "SpellTurner$Scribe" "tally" "[I", Cond.fieldLink RX6 33 "SpellTurner$Scribe" "size" "I", Cond.fieldLink RX6 36 "SpellTurner$Scribe" "copied" "I", Cond.fieldLink RX6 39 "SpellTurner$Scribe" "fits" "Z", Cond.methodLink RX6 42 yJ7_fill_53178, Cond.static yJ7_fill_53178, Cond.initialized RJ7, Cond.code yJ7_fill_53178 cJ7_fill_53178 4 none, Cond.methodLink RX11 248 yX8_next, Cond.instanceMethod yX8_next, Cond.selects RX8 yX8_next yX8_next, Cond.code yX8_next cX8_next 2 (some .boolean), Cond.methodLink RX8 44 yX8_isLetter, Cond.static yX8_isLetter, Cond.code yX8_isLetter cX8_isLetter 1 (some .boolean), Cond.methodLink RX8 56 yX10_isSmall, Cond.static yX10_isSmall, Cond.initialized RX10, Cond.code yX10_isSmall cX10_isSmall 1 (some .boolean)]
def wsX11_write_r4 : List Cond := [Cond.methodLink RX8 51 yX10_isCapital, Cond.static yX10_isCapital, Cond.code yX10_isCapital cX10_isCapital 1 (some .boolean), Cond.methodLink RX8 48 yX8_takeWord, Cond.instanceMethod yX8_takeWord, Cond.selects RX8 yX8_takeWord yX8_takeWord, Cond.code yX8_takeWord cX8_takeWord 1 none, Cond.fieldLink RX8 9 "SpellTurner$TextWords" "start" "I", Cond.fieldLink RX8 21 "SpellTurner$TextWords" "isName" "Z", Cond.fieldLink RX8 15 "SpellTurner$TextWords" "length" "I", Cond.methodLink RX11 255 yX6_leaveName, Cond.instanceMethod yX6_leaveName, Cond.selects RX6 yX6_leaveName yX6_leaveName, Cond.code yX6_leaveName cX6_leaveName 1 none, Cond.methodLink RX11 259 yX6_leaveLost, Cond.instanceMethod yX6_leaveLost, Cond.selects RX6 yX6_leaveLost yX6_leaveLost, Cond.code yX6_leaveLost cX6_leaveLost 1 none, Cond.methodLink RX11 168 yX9_through, Cond.instanceMethod yX9_through, Cond.selects RX9 yX9_through yX9_through, Cond.initialized RX9, Cond.code yX9_through cX9_through 9 (some (.object "SpellTurner$WordRow")), Cond.fieldLink RX9 45 "SpellTurner$Turner" "behind" "LSpellTurner$WordRow;"]
def wsX11_write_r5 : List Cond := [Cond.fieldLink RX9 53 "SpellTurner$WordRow" "count" "I", Cond.methodLink RX9 88 Lib.Math.max.name, Cond.static Lib.Math.max.name, Cond.code Lib.Math.max.name Lib.Math.max.code 2 (some .int), Cond.fieldLink RX9 41 "SpellTurner$Turner" "ahead" "LSpellTurner$WordRow;", Cond.methodLink RX9 85 yX10_addForm, Cond.instanceMethod yX10_addForm, Cond.selects RX10 yX10_addForm yX10_addForm, Cond.code yX10_addForm cX10_addForm 4 none, Cond.methodLink RX10 36 yX10_find, Cond.instanceMethod yX10_find, Cond.selects RX10 yX10_find yX10_find, Cond.code yX10_find cX10_find 5 (some .int), Cond.fieldLink RX10 9 "SpellTurner$WordRow" "count" "I", Cond.fieldLink RX10 22 "SpellTurner$WordRow" "lengths" "[I", Cond.fieldLink RX10 18 "SpellTurner$WordRow" "letters" "[B", Cond.fieldLink RX10 15 "SpellTurner$WordRow" "width" "I", Cond.methodLink RX10 44 yX10_same, Cond.static yX10_same, Cond.code yX10_same cX10_same 6 (some .boolean), Cond.methodLink RX10 40 yX10_add, Cond.instanceMethod yX10_add, Cond.selects RX10 yX10_add yX10_add, Cond.code yX10_add cX10_add 4 none]
def wsX11_write_r6 : List Cond := [Cond.methodLink RX10 30 arraycopyName, Cond.native arraycopyName, Cond.static arraycopyName, Cond.initialized "java/lang/System", Cond.methodLink RX10 26 yX10_isFull, Cond.instanceMethod yX10_isFull, Cond.selects RX10 yX10_isFull yX10_isFull, Cond.code yX10_isFull cX10_isFull 1 (some .boolean), Cond.methodLink RX9 94 yX9_turnForms, Cond.instanceMethod yX9_turnForms, Cond.selects RX9 yX9_turnForms yX9_turnForms, Cond.code yX9_turnForms cX9_turnForms 7 (some .long), Cond.methodLink RX9 98 yX9_turnWord, Cond.instanceMethod yX9_turnWord, Cond.selects RX9 yX9_turnWord yX9_turnWord, Cond.code yX9_turnWord cX9_turnWord 11 (some .long), Cond.fieldLink RX9 59 "SpellTurner$WordRow" "width" "I", Cond.fieldLink RX9 62 "SpellTurner$WordRow" "lengths" "[I", Cond.fieldLink RX9 102 "SpellTurner$Reform" "entries" "LSpellTurner$WordRow;", Cond.fieldLink RX9 56 "SpellTurner$WordRow" "letters" "[B", Cond.fieldLink RX9 12 "SpellTurner$Turner" "partings" "LSpellTurner$Partings;", Cond.fieldLink RX9 48 "SpellTurner$Reform" "parts" "LSpellTurner$WordRow;", Cond.fieldLink RX9 116 "SpellTurner$Partings" "count" "I", Cond.fieldLink RX9 18 "SpellTurner$Turner" "now" "[B"]
def wsX11_write_r7 : List Cond := [Cond.fieldLink RX9 25 "SpellTurner$Turner" "length" "I", Cond.fieldLink RX9 29 "SpellTurner$Turner" "used" "J", Cond.methodLink RX9 105 yX10_find, Cond.methodLink RX9 109 yX9_addEntry, Cond.instanceMethod yX9_addEntry, Cond.selects RX9 yX9_addEntry yX9_addEntry, Cond.code yX9_addEntry cX9_addEntry 5 none, Cond.fieldLink RX9 125 "SpellTurner$Reform" "becomes" "LSpellTurner$WordRow;", Cond.methodLink RX9 121 yX5_isKept, Cond.instanceMethod yX5_isKept, Cond.selects RX5 yX5_isKept yX5_isKept, Cond.initialized RX5, Cond.code yX5_isKept cX5_isKept 2 (some .boolean), Cond.fieldLink RX5 39 "SpellTurner$Reform" "kept" "[Z", Cond.methodLink RX9 113 yX3_find, Cond.instanceMethod yX3_find, Cond.selects RX3 yX3_find yX3_find, Cond.initialized RX3, Cond.code yX3_find cX3_find 6 none, Cond.fieldLink RX3 9 "SpellTurner$Partings" "count" "I", Cond.fieldLink RX3 38 "SpellTurner$Partings" "parts" "LSpellTurner$WordRow;", Cond.fieldLink RX3 42 "SpellTurner$WordRow" "count" "I", Cond.fieldLink RX3 26 "SpellTurner$Partings" "closes" "[Z", Cond.methodLink RX3 43 yX3_markFitting]
def wsX11_write_r8 : List Cond := [Cond.instanceMethod yX3_markFitting, Cond.selects RX3 yX3_markFitting yX3_markFitting, Cond.code yX3_markFitting cX3_markFitting 7 none, Cond.fieldLink RX3 23 "SpellTurner$Partings" "fitting" "[B", Cond.fieldLink RX3 55 "SpellTurner$WordRow" "lengths" "[I", Cond.methodLink RX3 58 yJ7_fill_eb02e, Cond.static yJ7_fill_eb02e, Cond.code yJ7_fill_eb02e cJ7_fill_eb02e 5 none, Cond.methodLink RJ7 13 yJ7_rangeCheck_23922, Cond.static yJ7_rangeCheck_23922, Cond.code yJ7_rangeCheck_23922 cJ7_rangeCheck_23922 3 none, Cond.methodLink RX3 64 yX10_standsIn, Cond.instanceMethod yX10_standsIn, Cond.selects RX10 yX10_standsIn yX10_standsIn, Cond.code yX10_standsIn cX10_standsIn 4 (some .boolean), Cond.methodLink RX3 47 yX3_walk, Cond.instanceMethod yX3_walk, Cond.selects RX3 yX3_walk yX3_walk, Cond.code yX3_walk cX3_walk 6 none, Cond.fieldLink RX3 30 "SpellTurner$Partings" "path" "[B", Cond.methodLink RX3 68 yX3_note, Cond.instanceMethod yX3_note, Cond.selects RX3 yX3_note yX3_note, Cond.code yX3_note cX3_note 2 none]
def wsX11_write_r9 : List Cond := [Cond.fieldLink RX3 19 "SpellTurner$Partings" "picks" "[B", Cond.methodLink RX3 72 arraycopyName, Cond.fieldLink RX3 15 "SpellTurner$Partings" "sizes" "[I", Cond.methodLink RX9 66 yX9_runLaws, Cond.instanceMethod yX9_runLaws, Cond.selects RX9 yX9_runLaws yX9_runLaws, Cond.code yX9_runLaws cX9_runLaws 7 (some .boolean), Cond.methodLink RX9 140 Lib.Math.min.name, Cond.methodLink RX9 134 arraycopyName, Cond.fieldLink RX9 143 "SpellTurner$Reform" "lawCount" "I", Cond.fieldLink RX9 146 "SpellTurner$Reform" "laws" "[LSpellTurner$Law;", Cond.methodLink RX9 150 yX9_apply, Cond.instanceMethod yX9_apply, Cond.selects RX9 yX9_apply yX9_apply, Cond.code yX9_apply cX9_apply 5 (some .boolean), Cond.fieldLink RX9 22 "SpellTurner$Turner" "next" "[B", Cond.fieldLink RX9 160 "SpellTurner$Law" "second" "[B", Cond.fieldLink RX9 163 "SpellTurner$Law" "first" "[B", Cond.methodLink RX9 154 yX1_standsAt, Cond.instanceMethod yX1_standsAt, Cond.selects RX1 yX1_standsAt yX1_standsAt, Cond.initialized RX1, Cond.code yX1_standsAt cX1_standsAt 7 (some .boolean), Cond.fieldLink RX1 23 "SpellTurner$Law" "first" "[B"]
def wsX11_write_r10 : List Cond := [Cond.fieldLink RX1 16 "SpellTurner$Law" "atStart" "Z", Cond.fieldLink RX1 20 "SpellTurner$Law" "atEnd" "Z", Cond.fieldLink RX1 7 "SpellTurner$Law" "ahead" "[B", Cond.fieldLink RX1 13 "SpellTurner$Law" "behind" "[B", Cond.methodLink RX1 29 yX10_same, Cond.methodLink RX9 117 yX9_turnParting, Cond.instanceMethod yX9_turnParting, Cond.selects RX9 yX9_turnParting yX9_turnParting, Cond.code yX9_turnParting cX9_turnParting 10 (some .long), Cond.fieldLink RX9 78 "SpellTurner$Reform" "turnedParts" "LSpellTurner$WordRow;", Cond.fieldLink RX9 128 "SpellTurner$Partings" "sizes" "[I", Cond.fieldLink RX9 74 "SpellTurner$Reform" "partUses" "[J", Cond.fieldLink RX9 70 "SpellTurner$Reform" "partHolds" "[Z", Cond.fieldLink RX9 33 "SpellTurner$Turner" "whole" "[B", Cond.methodLink RX9 131 yX3_pick, Cond.instanceMethod yX3_pick, Cond.selects RX3 yX3_pick yX3_pick, Cond.code yX3_pick cX3_pick 3 (some .int), Cond.methodLink RX11 265 yX6_put, Cond.instanceMethod yX6_put, Cond.selects RX6 yX6_put yX6_put, Cond.code yX6_put cX6_put 3 none, Cond.fieldLink RX6 48 "SpellTurner$WordRow" "count" "I", Cond.fieldLink RX6 56 "SpellTurner$WordRow" "lengths" "[I"]
def wsX11_write_r11 : List Cond := [Cond.fieldLink RX6 59 "SpellTurner$TextWords" "length" "I", Cond.fieldLink RX6 64 "SpellTurner$TextWords" "text" "[B", Cond.fieldLink RX6 67 "SpellTurner$TextWords" "start" "I", Cond.fieldLink RX6 78 "SpellTurner$WordRow" "letters" "[B", Cond.methodLink RX6 53 yX6_leaveLost, Cond.methodLink RX6 70 yX10_standsIn, Cond.methodLink RX6 74 yX6_append, Cond.instanceMethod yX6_append, Cond.selects RX6 yX6_append yX6_append, Cond.code yX6_append cX6_append 4 none, Cond.fieldLink RX6 15 "SpellTurner$Scribe" "page" "[B", Cond.methodLink RX6 81 arraycopyName, Cond.methodLink RX11 269 yX6_finish, Cond.instanceMethod yX6_finish, Cond.selects RX6 yX6_finish yX6_finish, Cond.code yX6_finish cX6_finish 5 (some .int), Cond.fieldLink RX6 9 "SpellTurner$Scribe" "told" "[B", Cond.fieldLink RX6 18 "SpellTurner$Scribe" "toldTally" "[I", Cond.fieldLink RX6 25 "SpellTurner$Scribe" "hasTold" "Z", Cond.fieldLink RX6 29 "SpellTurner$Scribe" "toldSize" "I"]
def wsX11_write : List Cond := .code yX11_write cX11_write 5 (some .int) :: ((wsX11_write_r1 ++ (wsX11_write_r2 ++ (wsX11_write_r3 ++ (wsX11_write_r4 ++ (wsX11_write_r5 ++ (wsX11_write_r6 ++ (wsX11_write_r7 ++ (wsX11_write_r8 ++ (wsX11_write_r9 ++ (wsX11_write_r10 ++ wsX11_write_r11)))))))))) ++ wsX110 ++ wsX70 ++ wsX80 ++ wsX60 ++ wsX90 ++ wsX100 ++ wsX50 ++ wsX30 ++ wsX10)
def wsX11_written : List Cond := .code yX11_written cX11_written 2 (some .int) :: ([.fieldLink RX11 94 "SpellTurner" "scribe" "LSpellTurner$Scribe;", .methodLink RX11 273 yX6_byteAt, .instanceMethod yX6_byteAt, .selects RX6 yX6_byteAt yX6_byteAt, .initialized RX6, .code yX6_byteAt cX6_byteAt 2 (some .int), .fieldLink RX6 29 "SpellTurner$Scribe" "toldSize" "I", .fieldLink RX6 9 "SpellTurner$Scribe" "told" "[B"] ++ wsX110 ++ wsX60)
def wsX11_counted : List Cond := .code yX11_counted cX11_counted 2 (some .int) :: ([.fieldLink RX11 94 "SpellTurner" "scribe" "LSpellTurner$Scribe;", .methodLink RX11 277 yX6_tallyOf, .instanceMethod yX6_tallyOf, .selects RX6 yX6_tallyOf yX6_tallyOf, .initialized RX6, .code yX6_tallyOf cX6_tallyOf 2 (some .int), .fieldLink RX6 25 "SpellTurner$Scribe" "hasTold" "Z", .fieldLink RX6 18 "SpellTurner$Scribe" "toldTally" "[I"] ++ wsX110 ++ wsX60)
def wsX11_chargeWord_r1 : List Cond := [Cond.fieldLink RX11 22 "SpellTurner" "reformCount" "I", Cond.fieldLink RX11 67 "SpellTurner" "book" "LSpellTurner$Book;", Cond.fieldLink RX11 12 "SpellTurner" "tape" "LSpellTurner$Tape;", Cond.fieldLink RX11 120 "SpellTurner$Tape" "bytes" "[B", Cond.fieldLink RX11 87 "SpellTurner" "textWords" "LSpellTurner$TextWords;", Cond.fieldLink RX11 262 "SpellTurner$TextWords" "start" "I", Cond.fieldLink RX11 258 "SpellTurner$TextWords" "length" "I", Cond.fieldLink RX11 101 "SpellTurner" "mixture" "LSpellTurner$Mixture;", Cond.fieldLink RX11 298 "SpellTurner$TextWords" "lineNumber" "I", Cond.methodLink RX11 294 yX0_hasForm, Cond.instanceMethod yX0_hasForm, Cond.selects RX0 yX0_hasForm yX0_hasForm, Cond.initialized RX0, Cond.code yX0_hasForm cX0_hasForm 6 (some .boolean), Cond.fieldLink RX0 14 "SpellTurner$Book" "words" "LSpellTurner$WordRow;", Cond.fieldLink RX0 38 "SpellTurner$WordRow" "count" "I", Cond.methodLink RX0 56 yX0_formsAt, Cond.instanceMethod yX0_formsAt, Cond.selects RX0 yX0_formsAt yX0_formsAt, Cond.code yX0_formsAt cX0_formsAt 4 (some (.object "SpellTurner$WordRow")), Cond.fieldLink RX0 20 "SpellTurner$Book" "forms" "[LSpellTurner$WordRow;", Cond.fieldLink RX0 35 "SpellTurner$Book" "nothing" "LSpellTurner$WordRow;", Cond.methodLink RX0 70 yX10_find, Cond.instanceMethod yX10_find]
def wsX11_chargeWord_r2 : List Cond := [Cond.selects RX10 yX10_find yX10_find, Cond.initialized RX10, Cond.code yX10_find cX10_find 5 (some .int), Cond.fieldLink RX10 9 "SpellTurner$WordRow" "count" "I", Cond.fieldLink RX10 22 "SpellTurner$WordRow" "lengths" "[I", Cond.fieldLink RX10 18 "SpellTurner$WordRow" "letters" "[B", Cond.fieldLink RX10 15 "SpellTurner$WordRow" "width" "I", Cond.methodLink RX10 44 yX10_same, Cond.static yX10_same, Cond.code yX10_same cX10_same 6 (some .boolean), Cond.methodLink RX11 301 yX2_charge, Cond.instanceMethod yX2_charge, Cond.selects RX2 yX2_charge yX2_charge, Cond.initialized RX2, Cond.code yX2_charge cX2_charge 3 none, Cond.fieldLink RX2 25 "SpellTurner$Mixture" "lines" "I", Cond.fieldLink RX2 28 "SpellTurner$Mixture" "stages" "I", Cond.fieldLink RX2 9 "SpellTurner$Mixture" "costs" "[I"]
def wsX11_chargeWord : List Cond := .code yX11_chargeWord cX11_chargeWord 2 none :: ((wsX11_chargeWord_r1 ++ wsX11_chargeWord_r2) ++ wsX110 ++ wsX70 ++ wsX80 ++ wsX00 ++ wsX100 ++ wsX20)
def wsX11_mixed_r1 : List Cond := [Cond.fieldLink RX11 12 "SpellTurner" "tape" "LSpellTurner$Tape;", Cond.fieldLink RX11 67 "SpellTurner" "book" "LSpellTurner$Book;", Cond.fieldLink RX11 22 "SpellTurner" "reformCount" "I", Cond.fieldLink RX11 18 "SpellTurner" "reforms" "[LSpellTurner$Reform;", Cond.fieldLink RX11 44 "SpellTurner" "turner" "LSpellTurner$Turner;", Cond.fieldLink RX11 101 "SpellTurner" "mixture" "LSpellTurner$Mixture;", Cond.fieldLink RX11 87 "SpellTurner" "textWords" "LSpellTurner$TextWords;", Cond.fieldLink RX11 120 "SpellTurner$Tape" "bytes" "[B", Cond.fieldLink RX11 251 "SpellTurner$TextWords" "isName" "Z", Cond.methodLink RX11 112 yX7_take, Cond.instanceMethod yX7_take, Cond.selects RX7 yX7_take yX7_take, Cond.initialized RX7, Cond.code yX7_take cX7_take 2 (some .int), Cond.fieldLink RX7 15 "SpellTurner$Tape" "length" "I", Cond.methodLink RX11 280 yX7_lines, Cond.instanceMethod yX7_lines, Cond.selects RX7 yX7_lines yX7_lines, Cond.code yX7_lines cX7_lines 2 (some .int), Cond.methodLink RX7 25 yX7_occurrences, Cond.instanceMethod yX7_occurrences, Cond.selects RX7 yX7_occurrences yX7_occurrences, Cond.code yX7_occurrences cX7_occurrences 5 (some .int), Cond.fieldLink RX7 9 "SpellTurner$Tape" "bytes" "[B"]
def wsX11_mixed_r2 : List Cond := [Cond.methodLink RX11 239 yX7_hasZero, Cond.instanceMethod yX7_hasZero, Cond.selects RX7 yX7_hasZero yX7_hasZero, Cond.code yX7_hasZero cX7_hasZero 2 (some .boolean), Cond.methodLink RX11 211 yX0_fill, Cond.instanceMethod yX0_fill, Cond.selects RX0 yX0_fill yX0_fill, Cond.initialized RX0, Cond.code yX0_fill cX0_fill 7 none, Cond.fieldLink RX0 28 "SpellTurner$Book" "filled" "[I", Cond.fieldLink RX0 14 "SpellTurner$Book" "words" "LSpellTurner$WordRow;", Cond.fieldLink RX0 38 "SpellTurner$WordRow" "count" "I", Cond.fieldLink RX0 32 "SpellTurner$Book" "spare" "LSpellTurner$WordRow;", Cond.fieldLink RX0 42 "SpellTurner$WordRow" "letters" "[B", Cond.fieldLink RX0 46 "SpellTurner$WordRow" "width" "I", Cond.fieldLink RX0 49 "SpellTurner$WordRow" "lengths" "[I", Cond.fieldLink RX0 24 "SpellTurner$Book" "lawsUsed" "[J", Cond.classLink RX0 9 RX10, Cond.instantiable RX10 4, Cond.initialized RX10, Cond.fieldLink RX0 20 "SpellTurner$Book" "forms" "[LSpellTurner$WordRow;", Cond.methodLink RX0 52 yX10_add, Cond.instanceMethod yX10_add, Cond.selects RX10 yX10_add yX10_add]
def wsX11_mixed_r3 : List Cond := [Cond.code yX10_add cX10_add 4 none, Cond.fieldLink RX10 15 "SpellTurner$WordRow" "width" "I", Cond.fieldLink RX10 18 "SpellTurner$WordRow" "letters" "[B", Cond.fieldLink RX10 9 "SpellTurner$WordRow" "count" "I", Cond.methodLink RX10 30 arraycopyName, Cond.native arraycopyName, Cond.static arraycopyName, Cond.initialized "java/lang/System", Cond.fieldLink RX10 22 "SpellTurner$WordRow" "lengths" "[I", Cond.methodLink RX10 26 yX10_isFull, Cond.instanceMethod yX10_isFull, Cond.selects RX10 yX10_isFull yX10_isFull, Cond.code yX10_isFull cX10_isFull 1 (some .boolean), Cond.methodLink RX0 56 yX0_formsAt, Cond.instanceMethod yX0_formsAt, Cond.selects RX0 yX0_formsAt yX0_formsAt, Cond.code yX0_formsAt cX0_formsAt 4 (some (.object "SpellTurner$WordRow")), Cond.fieldLink RX0 35 "SpellTurner$Book" "nothing" "LSpellTurner$WordRow;", Cond.methodLink RX0 60 yX9_turnForms, Cond.instanceMethod yX9_turnForms, Cond.selects RX9 yX9_turnForms yX9_turnForms, Cond.initialized RX9, Cond.code yX9_turnForms cX9_turnForms 7 (some .long), Cond.fieldLink RX9 53 "SpellTurner$WordRow" "count" "I"]
def wsX11_mixed_r4 : List Cond := [Cond.methodLink RX9 98 yX9_turnWord, Cond.instanceMethod yX9_turnWord, Cond.selects RX9 yX9_turnWord yX9_turnWord, Cond.code yX9_turnWord cX9_turnWord 11 (some .long), Cond.fieldLink RX9 59 "SpellTurner$WordRow" "width" "I", Cond.fieldLink RX9 62 "SpellTurner$WordRow" "lengths" "[I", Cond.fieldLink RX9 102 "SpellTurner$Reform" "entries" "LSpellTurner$WordRow;", Cond.fieldLink RX9 56 "SpellTurner$WordRow" "letters" "[B", Cond.fieldLink RX9 12 "SpellTurner$Turner" "partings" "LSpellTurner$Partings;", Cond.fieldLink RX9 48 "SpellTurner$Reform" "parts" "LSpellTurner$WordRow;", Cond.fieldLink RX9 116 "SpellTurner$Partings" "count" "I", Cond.fieldLink RX9 18 "SpellTurner$Turner" "now" "[B", Cond.fieldLink RX9 25 "SpellTurner$Turner" "length" "I", Cond.fieldLink RX9 29 "SpellTurner$Turner" "used" "J", Cond.methodLink RX9 105 yX10_find, Cond.instanceMethod yX10_find, Cond.selects RX10 yX10_find yX10_find, Cond.code yX10_find cX10_find 5 (some .int), Cond.methodLink RX10 44 yX10_same, Cond.static yX10_same, Cond.code yX10_same cX10_same 6 (some .boolean), Cond.methodLink RX9 109 yX9_addEntry, Cond.instanceMethod yX9_addEntry, Cond.selects RX9 yX9_addEntry yX9_addEntry]
def wsX11_mixed_r5 : List Cond := [Cond.code yX9_addEntry cX9_addEntry 5 none, Cond.fieldLink RX9 125 "SpellTurner$Reform" "becomes" "LSpellTurner$WordRow;", Cond.methodLink RX9 121 yX5_isKept, Cond.instanceMethod yX5_isKept, Cond.selects RX5 yX5_isKept yX5_isKept, Cond.initialized RX5, Cond.code yX5_isKept cX5_isKept 2 (some .boolean), Cond.fieldLink RX5 39 "SpellTurner$Reform" "kept" "[Z", Cond.methodLink RX9 85 yX10_addForm, Cond.instanceMethod yX10_addForm, Cond.selects RX10 yX10_addForm yX10_addForm, Cond.code yX10_addForm cX10_addForm 4 none, Cond.methodLink RX10 36 yX10_find, Cond.methodLink RX10 40 yX10_add, Cond.methodLink RX9 113 yX3_find, Cond.instanceMethod yX3_find, Cond.selects RX3 yX3_find yX3_find, Cond.initialized RX3, Cond.code yX3_find cX3_find 6 none, Cond.fieldLink RX3 9 "SpellTurner$Partings" "count" "I", Cond.fieldLink RX3 38 "SpellTurner$Partings" "parts" "LSpellTurner$WordRow;", Cond.fieldLink RX3 42 "SpellTurner$WordRow" "count" "I", Cond.fieldLink RX3 26 "SpellTurner$Partings" "closes" "[Z", Cond.methodLink RX3 43 yX3_markFitting]
def wsX11_mixed_r6 : List Cond := [Cond.instanceMethod yX3_markFitting, Cond.selects RX3 yX3_markFitting yX3_markFitting, Cond.code yX3_markFitting cX3_markFitting 7 none, Cond.fieldLink RX3 23 "SpellTurner$Partings" "fitting" "[B", Cond.fieldLink RX3 55 "SpellTurner$WordRow" "lengths" "[I", Cond.methodLink RX3 58 yJ7_fill_eb02e, Cond.static yJ7_fill_eb02e, Cond.initialized RJ7, Cond.code yJ7_fill_eb02e cJ7_fill_eb02e 5 none, Cond.methodLink RJ7 13 yJ7_rangeCheck_23922, Cond.static yJ7_rangeCheck_23922, Cond.code yJ7_rangeCheck_23922 cJ7_rangeCheck_23922 3 none, Cond.methodLink RX3 64 yX10_standsIn, Cond.instanceMethod yX10_standsIn, Cond.selects RX10 yX10_standsIn yX10_standsIn, Cond.code yX10_standsIn cX10_standsIn 4 (some .boolean), Cond.methodLink RX3 47 yX3_walk, Cond.instanceMethod yX3_walk, Cond.selects RX3 yX3_walk yX3_walk, Cond.code yX3_walk cX3_walk 6 none, Cond.fieldLink RX3 30 "SpellTurner$Partings" "path" "[B", Cond.methodLink RX3 68 yX3_note, Cond.instanceMethod yX3_note, Cond.selects RX3 yX3_note yX3_note]
def wsX11_mixed_r7 : List Cond := [Cond.code yX3_note cX3_note 2 none, Cond.fieldLink RX3 19 "SpellTurner$Partings" "picks" "[B", Cond.methodLink RX3 72 arraycopyName, Cond.fieldLink RX3 15 "SpellTurner$Partings" "sizes" "[I", Cond.methodLink RX9 66 yX9_runLaws, Cond.instanceMethod yX9_runLaws, Cond.selects RX9 yX9_runLaws yX9_runLaws, Cond.code yX9_runLaws cX9_runLaws 7 (some .boolean), Cond.methodLink RX9 140 Lib.Math.min.name, Cond.static Lib.Math.min.name, Cond.initialized "java/lang/Math", Cond.code Lib.Math.min.name Lib.Math.min.code 2 (some .int), Cond.methodLink RX9 134 arraycopyName, Cond.fieldLink RX9 143 "SpellTurner$Reform" "lawCount" "I", Cond.fieldLink RX9 146 "SpellTurner$Reform" "laws" "[LSpellTurner$Law;", Cond.methodLink RX9 150 yX9_apply, Cond.instanceMethod yX9_apply, Cond.selects RX9 yX9_apply yX9_apply, Cond.code yX9_apply cX9_apply 5 (some .boolean), Cond.fieldLink RX9 22 "SpellTurner$Turner" "next" "[B", Cond.fieldLink RX9 160 "SpellTurner$Law" "second" "[B", Cond.fieldLink RX9 163 "SpellTurner$Law" "first" "[B", Cond.methodLink RX9 88 Lib.Math.max.name, Cond.static Lib.Math.max.name]
def wsX11_mixed_r8 : List Cond := [Cond.code Lib.Math.max.name Lib.Math.max.code 2 (some .int), Cond.methodLink RX9 154 yX1_standsAt, Cond.instanceMethod yX1_standsAt, Cond.selects RX1 yX1_standsAt yX1_standsAt, Cond.initialized RX1, Cond.code yX1_standsAt cX1_standsAt 7 (some .boolean), Cond.fieldLink RX1 23 "SpellTurner$Law" "first" "[B", Cond.fieldLink RX1 16 "SpellTurner$Law" "atStart" "Z", Cond.fieldLink RX1 20 "SpellTurner$Law" "atEnd" "Z", Cond.fieldLink RX1 7 "SpellTurner$Law" "ahead" "[B", Cond.fieldLink RX1 13 "SpellTurner$Law" "behind" "[B", Cond.methodLink RX1 29 yX10_same, Cond.methodLink RX9 117 yX9_turnParting, Cond.instanceMethod yX9_turnParting, Cond.selects RX9 yX9_turnParting yX9_turnParting, Cond.code yX9_turnParting cX9_turnParting 10 (some .long), Cond.fieldLink RX9 78 "SpellTurner$Reform" "turnedParts" "LSpellTurner$WordRow;", Cond.fieldLink RX9 128 "SpellTurner$Partings" "sizes" "[I", Cond.fieldLink RX9 74 "SpellTurner$Reform" "partUses" "[J", Cond.fieldLink RX9 70 "SpellTurner$Reform" "partHolds" "[Z", Cond.fieldLink RX9 33 "SpellTurner$Turner" "whole" "[B", Cond.methodLink RX9 131 yX3_pick, Cond.instanceMethod yX3_pick, Cond.selects RX3 yX3_pick yX3_pick]
def wsX11_mixed_r9 : List Cond := [Cond.code yX3_pick cX3_pick 3 (some .int), Cond.methodLink RX0 11 yX10_init, Cond.instanceMethod yX10_init, Cond.code yX10_init cX10_init 3 none, Cond.methodLink RX10 3 objectInit, Cond.instanceMethod objectInit, Cond.code objectInit ⟨#[0xb1]⟩ 1 none, Cond.arrayClass .byte, Cond.arrayClass .int, Cond.methodLink RX0 66 yX10_copy, Cond.instanceMethod yX10_copy, Cond.selects RX10 yX10_copy yX10_copy, Cond.code yX10_copy cX10_copy 3 none, Cond.methodLink RX11 283 yX2_begin, Cond.instanceMethod yX2_begin, Cond.selects RX2 yX2_begin yX2_begin, Cond.initialized RX2, Cond.code yX2_begin cX2_begin 3 none, Cond.methodLink RX2 31 Lib.Math.min.name, Cond.fieldLink RX2 25 "SpellTurner$Mixture" "lines" "I", Cond.fieldLink RX2 28 "SpellTurner$Mixture" "stages" "I", Cond.fieldLink RX2 9 "SpellTurner$Mixture" "costs" "[I", Cond.methodLink RX2 37 yJ7_fill_53178, Cond.static yJ7_fill_53178]
def wsX11_mixed_r10 : List Cond := [Cond.code yJ7_fill_53178 cJ7_fill_53178 4 none, Cond.methodLink RX11 242 yX8_begin, Cond.instanceMethod yX8_begin, Cond.selects RX8 yX8_begin yX8_begin, Cond.initialized RX8, Cond.code yX8_begin cX8_begin 3 none, Cond.fieldLink RX8 25 "SpellTurner$TextWords" "text" "[B", Cond.methodLink RX8 38 Lib.Math.min.name, Cond.fieldLink RX8 29 "SpellTurner$TextWords" "size" "I", Cond.fieldLink RX8 32 "SpellTurner$TextWords" "at" "I", Cond.fieldLink RX8 18 "SpellTurner$TextWords" "lineNumber" "I", Cond.fieldLink RX8 35 "SpellTurner$TextWords" "quoted" "Z", Cond.methodLink RX11 248 yX8_next, Cond.instanceMethod yX8_next, Cond.selects RX8 yX8_next yX8_next, Cond.code yX8_next cX8_next 2 (some .boolean), Cond.methodLink RX8 44 yX8_isLetter, Cond.static yX8_isLetter, Cond.code yX8_isLetter cX8_isLetter 1 (some .boolean), Cond.methodLink RX8 56 yX10_isSmall, Cond.static yX10_isSmall, Cond.code yX10_isSmall cX10_isSmall 1 (some .boolean), Cond.methodLink RX8 51 yX10_isCapital, Cond.static yX10_isCapital]
def wsX11_mixed_r11 : List Cond := [Cond.code yX10_isCapital cX10_isCapital 1 (some .boolean), Cond.methodLink RX8 48 yX8_takeWord, Cond.instanceMethod yX8_takeWord, Cond.selects RX8 yX8_takeWord yX8_takeWord, Cond.code yX8_takeWord cX8_takeWord 1 none, Cond.fieldLink RX8 9 "SpellTurner$TextWords" "start" "I", Cond.fieldLink RX8 21 "SpellTurner$TextWords" "isName" "Z", Cond.fieldLink RX8 15 "SpellTurner$TextWords" "length" "I", Cond.methodLink RX11 285 yX11_chargeWord, Cond.instanceMethod yX11_chargeWord, Cond.selects RX11 yX11_chargeWord yX11_chargeWord, Cond.initialized RX11, Cond.code yX11_chargeWord cX11_chargeWord 2 none, Cond.fieldLink RX11 262 "SpellTurner$TextWords" "start" "I", Cond.fieldLink RX11 258 "SpellTurner$TextWords" "length" "I", Cond.fieldLink RX11 298 "SpellTurner$TextWords" "lineNumber" "I", Cond.methodLink RX11 294 yX0_hasForm, Cond.instanceMethod yX0_hasForm, Cond.selects RX0 yX0_hasForm yX0_hasForm, Cond.code yX0_hasForm cX0_hasForm 6 (some .boolean), Cond.methodLink RX0 70 yX10_find, Cond.methodLink RX11 301 yX2_charge, Cond.instanceMethod yX2_charge, Cond.selects RX2 yX2_charge yX2_charge]
def wsX11_mixed_r12 : List Cond := [Cond.code yX2_charge cX2_charge 3 none, Cond.methodLink RX11 288 yX2_settle, Cond.instanceMethod yX2_settle, Cond.selects RX2 yX2_settle yX2_settle, Cond.code yX2_settle cX2_settle 5 (some .int), Cond.fieldLink RX2 15 "SpellTurner$Mixture" "least" "[I", Cond.fieldLink RX2 18 "SpellTurner$Mixture" "told" "[I", Cond.fieldLink RX2 21 "SpellTurner$Mixture" "toldLines" "I", Cond.methodLink RX2 43 yX2_cheapest, Cond.instanceMethod yX2_cheapest, Cond.selects RX2 yX2_cheapest yX2_cheapest, Cond.code yX2_cheapest cX2_cheapest 6 (some .int), Cond.methodLink RX2 47 yX2_cost, Cond.instanceMethod yX2_cost, Cond.selects RX2 yX2_cost yX2_cost, Cond.code yX2_cost cX2_cost 6 (some .int)]
def wsX11_mixed : List Cond := .code yX11_mixed cX11_mixed 5 (some .int) :: ((wsX11_mixed_r1 ++ (wsX11_mixed_r2 ++ (wsX11_mixed_r3 ++ (wsX11_mixed_r4 ++ (wsX11_mixed_r5 ++ (wsX11_mixed_r6 ++ (wsX11_mixed_r7 ++ (wsX11_mixed_r8 ++ (wsX11_mixed_r9 ++ (wsX11_mixed_r10 ++ (wsX11_mixed_r11 ++ wsX11_mixed_r12))))))))))) ++ wsX110 ++ wsX70 ++ wsX80 ++ wsX00 ++ wsX100 ++ wsX50 ++ wsX90 ++ wsX30 ++ wsX10 ++ wsX20)
def wsX11_line : List Cond := .code yX11_line cX11_line 2 (some .int) :: ([.fieldLink RX11 101 "SpellTurner" "mixture" "LSpellTurner$Mixture;", .methodLink RX11 291 yX2_stageOf, .instanceMethod yX2_stageOf, .selects RX2 yX2_stageOf yX2_stageOf, .initialized RX2, .code yX2_stageOf cX2_stageOf 2 (some .int), .fieldLink RX2 21 "SpellTurner$Mixture" "toldLines" "I", .fieldLink RX2 18 "SpellTurner$Mixture" "told" "[I"] ++ wsX110 ++ wsX20)
def wsX11_count : List Cond := .code yX11_count cX11_count 2 (some .int) :: ([.fieldLink RX11 22 "SpellTurner" "reformCount" "I", .fieldLink RX11 67 "SpellTurner" "book" "LSpellTurner$Book;", .fieldLink RX11 197 "SpellTurner$Book" "words" "LSpellTurner$WordRow;", .fieldLink RX11 151 "SpellTurner$WordRow" "count" "I", .fieldLink RX11 12 "SpellTurner" "tape" "LSpellTurner$Tape;", .fieldLink RX11 105 "SpellTurner$Tape" "length" "I"] ++ wsX110 ++ wsX00 ++ wsX100 ++ wsX70)
def wsX12_init_r1 : List Cond := [Cond.methodLink RX12 1 objectInit, Cond.instanceMethod objectInit, Cond.code objectInit ⟨#[0xb1]⟩ 1 none, Cond.arrayClass .byte, Cond.fieldLink RX12 7 "SpellTurnerModel" "tape" "[B", Cond.fieldLink RX12 13 "SpellTurnerModel" "faultPlace" "I", Cond.arrayClass .int, Cond.fieldLink RX12 17 "SpellTurnerModel" "day" "[I", Cond.fieldLink RX12 21 "SpellTurnerModel" "laws" "[I", Cond.fieldLink RX12 24 "SpellTurnerModel" "parts" "[I", Cond.fieldLink RX12 27 "SpellTurnerModel" "listed" "[I", Cond.fieldLink RX12 30 "SpellTurnerModel" "lawText" "[B", Cond.fieldLink RX12 33 "SpellTurnerModel" "lawSize" "[I", Cond.arrayClass .boolean, Cond.fieldLink RX12 36 "SpellTurnerModel" "atStart" "[Z", Cond.fieldLink RX12 40 "SpellTurnerModel" "atEnd" "[Z", Cond.fieldLink RX12 43 "SpellTurnerModel" "partText" "[B", Cond.fieldLink RX12 46 "SpellTurnerModel" "partSize" "[I", Cond.fieldLink RX12 49 "SpellTurnerModel" "listText" "[B", Cond.fieldLink RX12 52 "SpellTurnerModel" "listSize" "[I", Cond.fieldLink RX12 55 "SpellTurnerModel" "word" "[B", Cond.fieldLink RX12 58 "SpellTurnerModel" "lengths" "[I", Cond.fieldLink RX12 61 "SpellTurnerModel" "ways" "[I", Cond.fieldLink RX12 64 "SpellTurnerModel" "wayParts" "[I"]
def wsX12_init_r2 : List Cond := [Cond.fieldLink RX12 67 "SpellTurnerModel" "canEnd" "[Z", Cond.fieldLink RX12 70 "SpellTurnerModel" "part" "[B", Cond.fieldLink RX12 73 "SpellTurnerModel" "written" "[B", Cond.fieldLink RX12 76 "SpellTurnerModel" "made" "[B", Cond.fieldLink RX12 79 "SpellTurnerModel" "madeSize" "[I", Cond.fieldLink RX12 82 "SpellTurnerModel" "now" "[B", Cond.fieldLink RX12 85 "SpellTurnerModel" "nowSize" "[I", Cond.fieldLink RX12 88 "SpellTurnerModel" "next" "[B", Cond.fieldLink RX12 91 "SpellTurnerModel" "nextSize" "[I", Cond.fieldLink RX12 94 "SpellTurnerModel" "told" "[B", Cond.fieldLink RX12 97 "SpellTurnerModel" "toldSize" "[I", Cond.fieldLink RX12 100 "SpellTurnerModel" "toldWays" "[I", Cond.fieldLink RX12 103 "SpellTurnerModel" "toldParts" "[I", Cond.fieldLink RX12 106 "SpellTurnerModel" "bookText" "[B", Cond.fieldLink RX12 109 "SpellTurnerModel" "bookSize" "[I", Cond.constant RX12 112 (201600), Cond.fieldLink RX12 113 "SpellTurnerModel" "formText" "[B", Cond.fieldLink RX12 116 "SpellTurnerModel" "formSize" "[I", Cond.fieldLink RX12 119 "SpellTurnerModel" "formMany" "[I", Cond.fieldLink RX12 122 "SpellTurnerModel" "olds" "[I", Cond.fieldLink RX12 125 "SpellTurnerModel" "asked" "[B", Cond.fieldLink RX12 128 "SpellTurnerModel" "pairs" "[I", Cond.fieldLink RX12 131 "SpellTurnerModel" "text" "[B", Cond.fieldLink RX12 134 "SpellTurnerModel" "draft" "[B"]
def wsX12_init_r3 : List Cond := [Cond.fieldLink RX12 137 "SpellTurnerModel" "counts" "[I", Cond.fieldLink RX12 140 "SpellTurnerModel" "newCounts" "[I", Cond.fieldLink RX12 143 "SpellTurnerModel" "cost" "[I", Cond.fieldLink RX12 146 "SpellTurnerModel" "sum" "[I", Cond.fieldLink RX12 149 "SpellTurnerModel" "stageOf" "[I"]
def wsX12_init : List Cond := .code yX12_init cX12_init 1 none :: ((wsX12_init_r1 ++ (wsX12_init_r2 ++ wsX12_init_r3)) ++ wsX120)
def wsX12_in : List Cond := .code yX12_in cX12_in 3 (some .boolean) :: ([])
def wsX12_isSmall : List Cond := .code yX12_isSmall cX12_isSmall 1 (some .boolean) :: ([])
def wsX12_feed : List Cond := .code yX12_feed cX12_feed 9 (some .int) :: ([.fieldLink RX12 152 "SpellTurnerModel" "taped" "I", .fieldLink RX12 7 "SpellTurnerModel" "tape" "[B"] ++ wsX120)
def wsX12_end : List Cond := .code yX12_end cX12_end 2 (some .int) :: ([.fieldLink RX12 152 "SpellTurnerModel" "taped" "I"] ++ wsX120)
def wsX12_see : List Cond := .code yX12_see cX12_see 2 (some .int) :: ([.fieldLink RX12 155 "SpellTurnerModel" "size" "I", .fieldLink RX12 7 "SpellTurnerModel" "tape" "[B"] ++ wsX120)
def wsX12_keyAt_r1 : List Cond := [Cond.methodLink RX12 160 yJ0_length_8abf5, Cond.instanceMethod yJ0_length_8abf5, Cond.selects RJ0 yJ0_length_8abf5 yJ0_length_8abf5, Cond.initialized RJ0, Cond.code yJ0_length_8abf5 cJ0_length_8abf5 1 (some .int), Cond.fieldLink RJ0 9 "java/lang/String" "value" "[B", Cond.methodLink RJ0 335 yJ0_coder_7d493, Cond.instanceMethod yJ0_coder_7d493, Cond.selects RJ0 yJ0_coder_7d493 yJ0_coder_7d493, Cond.code yJ0_coder_7d493 cJ0_coder_7d493 1 (some .byte), Cond.fieldLink RJ0 38 "java/lang/String" "COMPACT_STRINGS" "Z", Cond.fieldLink RJ0 15 "java/lang/String" "coder" "B", Cond.methodLink RX12 166 yJ0_charAt_5068e, Cond.instanceMethod yJ0_charAt_5068e, Cond.selects RJ0 yJ0_charAt_5068e yJ0_charAt_5068e, Cond.code yJ0_charAt_5068e cJ0_charAt_5068e 2 (some .char), Cond.methodLink RJ0 492 yJ0_isLatin1_aae02, Cond.instanceMethod yJ0_isLatin1_aae02, Cond.selects RJ0 yJ0_isLatin1_aae02 yJ0_isLatin1_aae02, Cond.code yJ0_isLatin1_aae02 cJ0_isLatin1_aae02 1 (some .boolean), Cond.methodLink RJ0 495 yJ1_charAt_3b067, Cond.static yJ1_charAt_3b067, Cond.initialized RJ1, Cond.code yJ1_charAt_3b067 cJ1_charAt_3b067 2 (some .char)]
def wsX12_keyAt_r2 : List Cond := [Cond.methodLink RJ1 9 yJ0_checkIndex_df160, Cond.static yJ0_checkIndex_df160, Cond.code yJ0_checkIndex_df160 cJ0_checkIndex_df160 2 none, Cond.fieldLink RJ0 1053 "jdk/internal/util/Preconditions" "SIOOBE_FORMATTER" "Ljava/util/function/BiFunction;", Cond.methodLink RJ0 1059 yJ3_checkIndex_8e157, Cond.static yJ3_checkIndex_8e157, Cond.initialized RJ3, Cond.code yJ3_checkIndex_8e157 cJ3_checkIndex_8e157 3 (some .int), Cond.methodLink RJ0 498 yJ2_charAt_3b067, Cond.static yJ2_charAt_3b067, Cond.initialized RJ2, Cond.code yJ2_charAt_3b067 cJ2_charAt_3b067 2 (some .char), Cond.methodLink RJ2 67 yJ2_checkIndex_2214a, Cond.static yJ2_checkIndex_2214a, Cond.code yJ2_checkIndex_2214a cJ2_checkIndex_2214a 2 none, Cond.methodLink RJ2 48 yJ2_length_9d52b, Cond.static yJ2_length_9d52b, Cond.code yJ2_length_9d52b cJ2_length_9d52b 1 (some .int), Cond.methodLink RJ2 414 yJ0_checkIndex_df160, Cond.methodLink RJ2 71 yJ2_getChar_3b067, Cond.static yJ2_getChar_3b067, Cond.code yJ2_getChar_3b067 cJ2_getChar_3b067 2 (some .char), Cond.fieldLink RJ2 44 "java/lang/StringUTF16" "$assertionsDisabled" "Z", Cond.fieldLink RJ2 59 "java/lang/StringUTF16" "HI_BYTE_SHIFT" "I"]
def wsX12_keyAt_r3 : List Cond := [Cond.fieldLink RJ2 63 "java/lang/StringUTF16" "LO_BYTE_SHIFT" "I", Cond.methodLink RX12 170 yX12_see, Cond.instanceMethod yX12_see, Cond.selects RX12 yX12_see yX12_see, Cond.initialized RX12, Cond.code yX12_see cX12_see 2 (some .int), Cond.fieldLink RX12 155 "SpellTurnerModel" "size" "I", Cond.fieldLink RX12 7 "SpellTurnerModel" "tape" "[B"]
def wsX12_keyAt : List Cond := .code yX12_keyAt cX12_keyAt 8 (some .int) :: ((wsX12_keyAt_r1 ++ (wsX12_keyAt_r2 ++ wsX12_keyAt_r3)) ++ wsX120)
def wsX12_scan_r1 : List Cond := [Cond.fieldLink RX12 174 "SpellTurnerModel" "end" "I", Cond.fieldLink RX12 177 "SpellTurnerModel" "at" "I", Cond.fieldLink RX12 180 "SpellTurnerModel" "sort" "I", Cond.fieldLink RX12 191 "SpellTurnerModel" "what" "I", Cond.methodLink RX12 170 yX12_see, Cond.instanceMethod yX12_see, Cond.selects RX12 yX12_see yX12_see, Cond.initialized RX12, Cond.code yX12_see cX12_see 2 (some .int), Cond.fieldLink RX12 155 "SpellTurnerModel" "size" "I", Cond.fieldLink RX12 7 "SpellTurnerModel" "tape" "[B", Cond.methodLink RX12 183 yX12_isSmall, Cond.static yX12_isSmall, Cond.code yX12_isSmall cX12_isSmall 1 (some .boolean), Cond.methodLink RX12 187 yX12_keyAt, Cond.instanceMethod yX12_keyAt, Cond.selects RX12 yX12_keyAt yX12_keyAt, Cond.code yX12_keyAt cX12_keyAt 8 (some .int), Cond.methodLink RX12 160 yJ0_length_8abf5, Cond.instanceMethod yJ0_length_8abf5, Cond.selects RJ0 yJ0_length_8abf5 yJ0_length_8abf5, Cond.initialized RJ0, Cond.code yJ0_length_8abf5 cJ0_length_8abf5 1 (some .int), Cond.fieldLink RJ0 9 "java/lang/String" "value" "[B"]
def wsX12_scan_r2 : List Cond := [Cond.methodLink RJ0 335 yJ0_coder_7d493, Cond.instanceMethod yJ0_coder_7d493, Cond.selects RJ0 yJ0_coder_7d493 yJ0_coder_7d493, Cond.code yJ0_coder_7d493 cJ0_coder_7d493 1 (some .byte), Cond.fieldLink RJ0 38 "java/lang/String" "COMPACT_STRINGS" "Z", Cond.fieldLink RJ0 15 "java/lang/String" "coder" "B", Cond.methodLink RX12 166 yJ0_charAt_5068e, Cond.instanceMethod yJ0_charAt_5068e, Cond.selects RJ0 yJ0_charAt_5068e yJ0_charAt_5068e, Cond.code yJ0_charAt_5068e cJ0_charAt_5068e 2 (some .char), Cond.methodLink RJ0 492 yJ0_isLatin1_aae02, Cond.instanceMethod yJ0_isLatin1_aae02, Cond.selects RJ0 yJ0_isLatin1_aae02 yJ0_isLatin1_aae02, Cond.code yJ0_isLatin1_aae02 cJ0_isLatin1_aae02 1 (some .boolean), Cond.methodLink RJ0 495 yJ1_charAt_3b067, Cond.static yJ1_charAt_3b067, Cond.initialized RJ1, Cond.code yJ1_charAt_3b067 cJ1_charAt_3b067 2 (some .char), Cond.methodLink RJ1 9 yJ0_checkIndex_df160, Cond.static yJ0_checkIndex_df160, Cond.code yJ0_checkIndex_df160 cJ0_checkIndex_df160 2 none, Cond.fieldLink RJ0 1053 "jdk/internal/util/Preconditions" "SIOOBE_FORMATTER" "Ljava/util/function/BiFunction;", Cond.methodLink RJ0 1059 yJ3_checkIndex_8e157, Cond.static yJ3_checkIndex_8e157]
def wsX12_scan_r3 : List Cond := [Cond.initialized RJ3, Cond.code yJ3_checkIndex_8e157 cJ3_checkIndex_8e157 3 (some .int), Cond.methodLink RJ0 498 yJ2_charAt_3b067, Cond.static yJ2_charAt_3b067, Cond.initialized RJ2, Cond.code yJ2_charAt_3b067 cJ2_charAt_3b067 2 (some .char), Cond.methodLink RJ2 67 yJ2_checkIndex_2214a, Cond.static yJ2_checkIndex_2214a, Cond.code yJ2_checkIndex_2214a cJ2_checkIndex_2214a 2 none, Cond.methodLink RJ2 48 yJ2_length_9d52b, Cond.static yJ2_length_9d52b, Cond.code yJ2_length_9d52b cJ2_length_9d52b 1 (some .int), Cond.methodLink RJ2 414 yJ0_checkIndex_df160, Cond.methodLink RJ2 71 yJ2_getChar_3b067, Cond.static yJ2_getChar_3b067, Cond.code yJ2_getChar_3b067 cJ2_getChar_3b067 2 (some .char), Cond.fieldLink RJ2 44 "java/lang/StringUTF16" "$assertionsDisabled" "Z", Cond.fieldLink RJ2 59 "java/lang/StringUTF16" "HI_BYTE_SHIFT" "I", Cond.fieldLink RJ2 63 "java/lang/StringUTF16" "LO_BYTE_SHIFT" "I"]
def wsX12_scan : List Cond := .code yX12_scan cX12_scan 4 none :: ((wsX12_scan_r1 ++ (wsX12_scan_r2 ++ wsX12_scan_r3)) ++ wsX120)
def wsX12_wrong : List Cond := .code yX12_wrong cX12_wrong 2 (some .boolean) :: ([.fieldLink RX12 194 "SpellTurnerModel" "faultKind" "I", .fieldLink RX12 177 "SpellTurnerModel" "at" "I", .fieldLink RX12 13 "SpellTurnerModel" "faultPlace" "I"] ++ wsX120)
def wsX12_take : List Cond := .code yX12_take cX12_take 7 (some .boolean) :: ([.fieldLink RX12 180 "SpellTurnerModel" "sort" "I", .fieldLink RX12 174 "SpellTurnerModel" "end" "I", .fieldLink RX12 177 "SpellTurnerModel" "at" "I", .fieldLink RX12 7 "SpellTurnerModel" "tape" "[B", .methodLink RX12 197 yX12_wrong, .instanceMethod yX12_wrong, .selects RX12 yX12_wrong yX12_wrong, .initialized RX12, .code yX12_wrong cX12_wrong 2 (some .boolean), .fieldLink RX12 194 "SpellTurnerModel" "faultKind" "I", .fieldLink RX12 13 "SpellTurnerModel" "faultPlace" "I"] ++ wsX120)
def wsX12_same : List Cond := .code yX12_same cX12_same 5 (some .boolean) :: ([])
def wsX12_readListed_r1 : List Cond := [Cond.fieldLink RX12 27 "SpellTurnerModel" "listed" "[I", Cond.fieldLink RX12 49 "SpellTurnerModel" "listText" "[B", Cond.fieldLink RX12 52 "SpellTurnerModel" "listSize" "[I", Cond.fieldLink RX12 180 "SpellTurnerModel" "sort" "I", Cond.fieldLink RX12 191 "SpellTurnerModel" "what" "I", Cond.methodLink RX12 197 yX12_wrong, Cond.instanceMethod yX12_wrong, Cond.selects RX12 yX12_wrong yX12_wrong, Cond.initialized RX12, Cond.code yX12_wrong cX12_wrong 2 (some .boolean), Cond.fieldLink RX12 194 "SpellTurnerModel" "faultKind" "I", Cond.fieldLink RX12 177 "SpellTurnerModel" "at" "I", Cond.fieldLink RX12 13 "SpellTurnerModel" "faultPlace" "I", Cond.methodLink RX12 200 yX12_scan, Cond.instanceMethod yX12_scan, Cond.selects RX12 yX12_scan yX12_scan, Cond.code yX12_scan cX12_scan 4 none, Cond.fieldLink RX12 174 "SpellTurnerModel" "end" "I", Cond.methodLink RX12 170 yX12_see, Cond.instanceMethod yX12_see, Cond.selects RX12 yX12_see yX12_see, Cond.code yX12_see cX12_see 2 (some .int), Cond.fieldLink RX12 155 "SpellTurnerModel" "size" "I", Cond.fieldLink RX12 7 "SpellTurnerModel" "tape" "[B"]
def wsX12_readListed_r2 : List Cond := [Cond.methodLink RX12 183 yX12_isSmall, Cond.static yX12_isSmall, Cond.code yX12_isSmall cX12_isSmall 1 (some .boolean), Cond.methodLink RX12 187 yX12_keyAt, Cond.instanceMethod yX12_keyAt, Cond.selects RX12 yX12_keyAt yX12_keyAt, Cond.code yX12_keyAt cX12_keyAt 8 (some .int), Cond.methodLink RX12 160 yJ0_length_8abf5, Cond.instanceMethod yJ0_length_8abf5, Cond.selects RJ0 yJ0_length_8abf5 yJ0_length_8abf5, Cond.initialized RJ0, Cond.code yJ0_length_8abf5 cJ0_length_8abf5 1 (some .int), Cond.fieldLink RJ0 9 "java/lang/String" "value" "[B", Cond.methodLink RJ0 335 yJ0_coder_7d493, Cond.instanceMethod yJ0_coder_7d493, Cond.selects RJ0 yJ0_coder_7d493 yJ0_coder_7d493, Cond.code yJ0_coder_7d493 cJ0_coder_7d493 1 (some .byte), Cond.fieldLink RJ0 38 "java/lang/String" "COMPACT_STRINGS" "Z", Cond.fieldLink RJ0 15 "java/lang/String" "coder" "B", Cond.methodLink RX12 166 yJ0_charAt_5068e, Cond.instanceMethod yJ0_charAt_5068e, Cond.selects RJ0 yJ0_charAt_5068e yJ0_charAt_5068e, Cond.code yJ0_charAt_5068e cJ0_charAt_5068e 2 (some .char), Cond.methodLink RJ0 492 yJ0_isLatin1_aae02]
def wsX12_readListed_r3 : List Cond := [Cond.instanceMethod yJ0_isLatin1_aae02, Cond.selects RJ0 yJ0_isLatin1_aae02 yJ0_isLatin1_aae02, Cond.code yJ0_isLatin1_aae02 cJ0_isLatin1_aae02 1 (some .boolean), Cond.methodLink RJ0 495 yJ1_charAt_3b067, Cond.static yJ1_charAt_3b067, Cond.initialized RJ1, Cond.code yJ1_charAt_3b067 cJ1_charAt_3b067 2 (some .char), Cond.methodLink RJ1 9 yJ0_checkIndex_df160, Cond.static yJ0_checkIndex_df160, Cond.code yJ0_checkIndex_df160 cJ0_checkIndex_df160 2 none, Cond.fieldLink RJ0 1053 "jdk/internal/util/Preconditions" "SIOOBE_FORMATTER" "Ljava/util/function/BiFunction;", Cond.methodLink RJ0 1059 yJ3_checkIndex_8e157, Cond.static yJ3_checkIndex_8e157, Cond.initialized RJ3, Cond.code yJ3_checkIndex_8e157 cJ3_checkIndex_8e157 3 (some .int), Cond.methodLink RJ0 498 yJ2_charAt_3b067, Cond.static yJ2_charAt_3b067, Cond.initialized RJ2, Cond.code yJ2_charAt_3b067 cJ2_charAt_3b067 2 (some .char), Cond.methodLink RJ2 67 yJ2_checkIndex_2214a, Cond.static yJ2_checkIndex_2214a, Cond.code yJ2_checkIndex_2214a cJ2_checkIndex_2214a 2 none, Cond.methodLink RJ2 48 yJ2_length_9d52b, Cond.static yJ2_length_9d52b]
def wsX12_readListed_r4 : List Cond := [Cond.code yJ2_length_9d52b cJ2_length_9d52b 1 (some .int), Cond.methodLink RJ2 414 yJ0_checkIndex_df160, Cond.methodLink RJ2 71 yJ2_getChar_3b067, Cond.static yJ2_getChar_3b067, Cond.code yJ2_getChar_3b067 cJ2_getChar_3b067 2 (some .char), Cond.fieldLink RJ2 44 "java/lang/StringUTF16" "$assertionsDisabled" "Z", Cond.fieldLink RJ2 59 "java/lang/StringUTF16" "HI_BYTE_SHIFT" "I", Cond.fieldLink RJ2 63 "java/lang/StringUTF16" "LO_BYTE_SHIFT" "I", Cond.methodLink RX12 203 yX12_take, Cond.instanceMethod yX12_take, Cond.selects RX12 yX12_take yX12_take, Cond.code yX12_take cX12_take 7 (some .boolean), Cond.methodLink RX12 207 yX12_same, Cond.static yX12_same, Cond.code yX12_same cX12_same 5 (some .boolean)]
def wsX12_readListed : List Cond := .code yX12_readListed cX12_readListed 4 (some .boolean) :: ((wsX12_readListed_r1 ++ (wsX12_readListed_r2 ++ (wsX12_readListed_r3 ++ wsX12_readListed_r4))) ++ wsX120)
def wsX12_readPart_r1 : List Cond := [Cond.fieldLink RX12 24 "SpellTurnerModel" "parts" "[I", Cond.fieldLink RX12 43 "SpellTurnerModel" "partText" "[B", Cond.fieldLink RX12 46 "SpellTurnerModel" "partSize" "[I", Cond.methodLink RX12 197 yX12_wrong, Cond.instanceMethod yX12_wrong, Cond.selects RX12 yX12_wrong yX12_wrong, Cond.initialized RX12, Cond.code yX12_wrong cX12_wrong 2 (some .boolean), Cond.fieldLink RX12 194 "SpellTurnerModel" "faultKind" "I", Cond.fieldLink RX12 177 "SpellTurnerModel" "at" "I", Cond.fieldLink RX12 13 "SpellTurnerModel" "faultPlace" "I", Cond.methodLink RX12 200 yX12_scan, Cond.instanceMethod yX12_scan, Cond.selects RX12 yX12_scan yX12_scan, Cond.code yX12_scan cX12_scan 4 none, Cond.fieldLink RX12 174 "SpellTurnerModel" "end" "I", Cond.fieldLink RX12 180 "SpellTurnerModel" "sort" "I", Cond.fieldLink RX12 191 "SpellTurnerModel" "what" "I", Cond.methodLink RX12 170 yX12_see, Cond.instanceMethod yX12_see, Cond.selects RX12 yX12_see yX12_see, Cond.code yX12_see cX12_see 2 (some .int), Cond.fieldLink RX12 155 "SpellTurnerModel" "size" "I", Cond.fieldLink RX12 7 "SpellTurnerModel" "tape" "[B"]
def wsX12_readPart_r2 : List Cond := [Cond.methodLink RX12 183 yX12_isSmall, Cond.static yX12_isSmall, Cond.code yX12_isSmall cX12_isSmall 1 (some .boolean), Cond.methodLink RX12 187 yX12_keyAt, Cond.instanceMethod yX12_keyAt, Cond.selects RX12 yX12_keyAt yX12_keyAt, Cond.code yX12_keyAt cX12_keyAt 8 (some .int), Cond.methodLink RX12 160 yJ0_length_8abf5, Cond.instanceMethod yJ0_length_8abf5, Cond.selects RJ0 yJ0_length_8abf5 yJ0_length_8abf5, Cond.initialized RJ0, Cond.code yJ0_length_8abf5 cJ0_length_8abf5 1 (some .int), Cond.fieldLink RJ0 9 "java/lang/String" "value" "[B", Cond.methodLink RJ0 335 yJ0_coder_7d493, Cond.instanceMethod yJ0_coder_7d493, Cond.selects RJ0 yJ0_coder_7d493 yJ0_coder_7d493, Cond.code yJ0_coder_7d493 cJ0_coder_7d493 1 (some .byte), Cond.fieldLink RJ0 38 "java/lang/String" "COMPACT_STRINGS" "Z", Cond.fieldLink RJ0 15 "java/lang/String" "coder" "B", Cond.methodLink RX12 166 yJ0_charAt_5068e, Cond.instanceMethod yJ0_charAt_5068e, Cond.selects RJ0 yJ0_charAt_5068e yJ0_charAt_5068e, Cond.code yJ0_charAt_5068e cJ0_charAt_5068e 2 (some .char), Cond.methodLink RJ0 492 yJ0_isLatin1_aae02]
def wsX12_readPart_r3 : List Cond := [Cond.instanceMethod yJ0_isLatin1_aae02, Cond.selects RJ0 yJ0_isLatin1_aae02 yJ0_isLatin1_aae02, Cond.code yJ0_isLatin1_aae02 cJ0_isLatin1_aae02 1 (some .boolean), Cond.methodLink RJ0 495 yJ1_charAt_3b067, Cond.static yJ1_charAt_3b067, Cond.initialized RJ1, Cond.code yJ1_charAt_3b067 cJ1_charAt_3b067 2 (some .char), Cond.methodLink RJ1 9 yJ0_checkIndex_df160, Cond.static yJ0_checkIndex_df160, Cond.code yJ0_checkIndex_df160 cJ0_checkIndex_df160 2 none, Cond.fieldLink RJ0 1053 "jdk/internal/util/Preconditions" "SIOOBE_FORMATTER" "Ljava/util/function/BiFunction;", Cond.methodLink RJ0 1059 yJ3_checkIndex_8e157, Cond.static yJ3_checkIndex_8e157, Cond.initialized RJ3, Cond.code yJ3_checkIndex_8e157 cJ3_checkIndex_8e157 3 (some .int), Cond.methodLink RJ0 498 yJ2_charAt_3b067, Cond.static yJ2_charAt_3b067, Cond.initialized RJ2, Cond.code yJ2_charAt_3b067 cJ2_charAt_3b067 2 (some .char), Cond.methodLink RJ2 67 yJ2_checkIndex_2214a, Cond.static yJ2_checkIndex_2214a, Cond.code yJ2_checkIndex_2214a cJ2_checkIndex_2214a 2 none, Cond.methodLink RJ2 48 yJ2_length_9d52b, Cond.static yJ2_length_9d52b]
def wsX12_readPart_r4 : List Cond := [Cond.code yJ2_length_9d52b cJ2_length_9d52b 1 (some .int), Cond.methodLink RJ2 414 yJ0_checkIndex_df160, Cond.methodLink RJ2 71 yJ2_getChar_3b067, Cond.static yJ2_getChar_3b067, Cond.code yJ2_getChar_3b067 cJ2_getChar_3b067 2 (some .char), Cond.fieldLink RJ2 44 "java/lang/StringUTF16" "$assertionsDisabled" "Z", Cond.fieldLink RJ2 59 "java/lang/StringUTF16" "HI_BYTE_SHIFT" "I", Cond.fieldLink RJ2 63 "java/lang/StringUTF16" "LO_BYTE_SHIFT" "I", Cond.methodLink RX12 203 yX12_take, Cond.instanceMethod yX12_take, Cond.selects RX12 yX12_take yX12_take, Cond.code yX12_take cX12_take 7 (some .boolean), Cond.methodLink RX12 207 yX12_same, Cond.static yX12_same, Cond.code yX12_same cX12_same 5 (some .boolean)]
def wsX12_readPart : List Cond := .code yX12_readPart cX12_readPart 3 (some .boolean) :: ((wsX12_readPart_r1 ++ (wsX12_readPart_r2 ++ (wsX12_readPart_r3 ++ wsX12_readPart_r4))) ++ wsX120)
def wsX12_readLaw_r1 : List Cond := [Cond.fieldLink RX12 21 "SpellTurnerModel" "laws" "[I", Cond.fieldLink RX12 30 "SpellTurnerModel" "lawText" "[B", Cond.fieldLink RX12 33 "SpellTurnerModel" "lawSize" "[I", Cond.fieldLink RX12 180 "SpellTurnerModel" "sort" "I", Cond.fieldLink RX12 191 "SpellTurnerModel" "what" "I", Cond.fieldLink RX12 36 "SpellTurnerModel" "atStart" "[Z", Cond.fieldLink RX12 40 "SpellTurnerModel" "atEnd" "[Z", Cond.methodLink RX12 197 yX12_wrong, Cond.instanceMethod yX12_wrong, Cond.selects RX12 yX12_wrong yX12_wrong, Cond.initialized RX12, Cond.code yX12_wrong cX12_wrong 2 (some .boolean), Cond.fieldLink RX12 194 "SpellTurnerModel" "faultKind" "I", Cond.fieldLink RX12 177 "SpellTurnerModel" "at" "I", Cond.fieldLink RX12 13 "SpellTurnerModel" "faultPlace" "I", Cond.methodLink RX12 200 yX12_scan, Cond.instanceMethod yX12_scan, Cond.selects RX12 yX12_scan yX12_scan, Cond.code yX12_scan cX12_scan 4 none, Cond.fieldLink RX12 174 "SpellTurnerModel" "end" "I", Cond.methodLink RX12 170 yX12_see, Cond.instanceMethod yX12_see, Cond.selects RX12 yX12_see yX12_see, Cond.code yX12_see cX12_see 2 (some .int)]
def wsX12_readLaw_r2 : List Cond := [Cond.fieldLink RX12 155 "SpellTurnerModel" "size" "I", Cond.fieldLink RX12 7 "SpellTurnerModel" "tape" "[B", Cond.methodLink RX12 183 yX12_isSmall, Cond.static yX12_isSmall, Cond.code yX12_isSmall cX12_isSmall 1 (some .boolean), Cond.methodLink RX12 187 yX12_keyAt, Cond.instanceMethod yX12_keyAt, Cond.selects RX12 yX12_keyAt yX12_keyAt, Cond.code yX12_keyAt cX12_keyAt 8 (some .int), Cond.methodLink RX12 160 yJ0_length_8abf5, Cond.instanceMethod yJ0_length_8abf5, Cond.selects RJ0 yJ0_length_8abf5 yJ0_length_8abf5, Cond.initialized RJ0, Cond.code yJ0_length_8abf5 cJ0_length_8abf5 1 (some .int), Cond.fieldLink RJ0 9 "java/lang/String" "value" "[B", Cond.methodLink RJ0 335 yJ0_coder_7d493, Cond.instanceMethod yJ0_coder_7d493, Cond.selects RJ0 yJ0_coder_7d493 yJ0_coder_7d493, Cond.code yJ0_coder_7d493 cJ0_coder_7d493 1 (some .byte), Cond.fieldLink RJ0 38 "java/lang/String" "COMPACT_STRINGS" "Z", Cond.fieldLink RJ0 15 "java/lang/String" "coder" "B", Cond.methodLink RX12 166 yJ0_charAt_5068e, Cond.instanceMethod yJ0_charAt_5068e, Cond.selects RJ0 yJ0_charAt_5068e yJ0_charAt_5068e]
def wsX12_readLaw_r3 : List Cond := [Cond.code yJ0_charAt_5068e cJ0_charAt_5068e 2 (some .char), Cond.methodLink RJ0 492 yJ0_isLatin1_aae02, Cond.instanceMethod yJ0_isLatin1_aae02, Cond.selects RJ0 yJ0_isLatin1_aae02 yJ0_isLatin1_aae02, Cond.code yJ0_isLatin1_aae02 cJ0_isLatin1_aae02 1 (some .boolean), Cond.methodLink RJ0 495 yJ1_charAt_3b067, Cond.static yJ1_charAt_3b067, Cond.initialized RJ1, Cond.code yJ1_charAt_3b067 cJ1_charAt_3b067 2 (some .char), Cond.methodLink RJ1 9 yJ0_checkIndex_df160, Cond.static yJ0_checkIndex_df160, Cond.code yJ0_checkIndex_df160 cJ0_checkIndex_df160 2 none, Cond.fieldLink RJ0 1053 "jdk/internal/util/Preconditions" "SIOOBE_FORMATTER" "Ljava/util/function/BiFunction;", Cond.methodLink RJ0 1059 yJ3_checkIndex_8e157, Cond.static yJ3_checkIndex_8e157, Cond.initialized RJ3, Cond.code yJ3_checkIndex_8e157 cJ3_checkIndex_8e157 3 (some .int), Cond.methodLink RJ0 498 yJ2_charAt_3b067, Cond.static yJ2_charAt_3b067, Cond.initialized RJ2, Cond.code yJ2_charAt_3b067 cJ2_charAt_3b067 2 (some .char), Cond.methodLink RJ2 67 yJ2_checkIndex_2214a, Cond.static yJ2_checkIndex_2214a, Cond.code yJ2_checkIndex_2214a cJ2_checkIndex_2214a 2 none]
def wsX12_readLaw_r4 : List Cond := [Cond.methodLink RJ2 48 yJ2_length_9d52b, Cond.static yJ2_length_9d52b, Cond.code yJ2_length_9d52b cJ2_length_9d52b 1 (some .int), Cond.methodLink RJ2 414 yJ0_checkIndex_df160, Cond.methodLink RJ2 71 yJ2_getChar_3b067, Cond.static yJ2_getChar_3b067, Cond.code yJ2_getChar_3b067 cJ2_getChar_3b067 2 (some .char), Cond.fieldLink RJ2 44 "java/lang/StringUTF16" "$assertionsDisabled" "Z", Cond.fieldLink RJ2 59 "java/lang/StringUTF16" "HI_BYTE_SHIFT" "I", Cond.fieldLink RJ2 63 "java/lang/StringUTF16" "LO_BYTE_SHIFT" "I", Cond.methodLink RX12 203 yX12_take, Cond.instanceMethod yX12_take, Cond.selects RX12 yX12_take yX12_take, Cond.code yX12_take cX12_take 7 (some .boolean)]
def wsX12_readLaw : List Cond := .code yX12_readLaw cX12_readLaw 4 (some .boolean) :: ((wsX12_readLaw_r1 ++ (wsX12_readLaw_r2 ++ (wsX12_readLaw_r3 ++ wsX12_readLaw_r4))) ++ wsX120)
def wsX12_readItem_r1 : List Cond := [Cond.fieldLink RX12 180 "SpellTurnerModel" "sort" "I", Cond.fieldLink RX12 191 "SpellTurnerModel" "what" "I", Cond.methodLink RX12 197 yX12_wrong, Cond.instanceMethod yX12_wrong, Cond.selects RX12 yX12_wrong yX12_wrong, Cond.initialized RX12, Cond.code yX12_wrong cX12_wrong 2 (some .boolean), Cond.fieldLink RX12 194 "SpellTurnerModel" "faultKind" "I", Cond.fieldLink RX12 177 "SpellTurnerModel" "at" "I", Cond.fieldLink RX12 13 "SpellTurnerModel" "faultPlace" "I", Cond.methodLink RX12 211 yX12_readListed, Cond.instanceMethod yX12_readListed, Cond.selects RX12 yX12_readListed yX12_readListed, Cond.code yX12_readListed cX12_readListed 4 (some .boolean), Cond.fieldLink RX12 27 "SpellTurnerModel" "listed" "[I", Cond.fieldLink RX12 49 "SpellTurnerModel" "listText" "[B", Cond.fieldLink RX12 52 "SpellTurnerModel" "listSize" "[I", Cond.methodLink RX12 200 yX12_scan, Cond.instanceMethod yX12_scan, Cond.selects RX12 yX12_scan yX12_scan, Cond.code yX12_scan cX12_scan 4 none, Cond.fieldLink RX12 174 "SpellTurnerModel" "end" "I", Cond.methodLink RX12 170 yX12_see, Cond.instanceMethod yX12_see]
def wsX12_readItem_r2 : List Cond := [Cond.selects RX12 yX12_see yX12_see, Cond.code yX12_see cX12_see 2 (some .int), Cond.fieldLink RX12 155 "SpellTurnerModel" "size" "I", Cond.fieldLink RX12 7 "SpellTurnerModel" "tape" "[B", Cond.methodLink RX12 183 yX12_isSmall, Cond.static yX12_isSmall, Cond.code yX12_isSmall cX12_isSmall 1 (some .boolean), Cond.methodLink RX12 187 yX12_keyAt, Cond.instanceMethod yX12_keyAt, Cond.selects RX12 yX12_keyAt yX12_keyAt, Cond.code yX12_keyAt cX12_keyAt 8 (some .int), Cond.methodLink RX12 160 yJ0_length_8abf5, Cond.instanceMethod yJ0_length_8abf5, Cond.selects RJ0 yJ0_length_8abf5 yJ0_length_8abf5, Cond.initialized RJ0, Cond.code yJ0_length_8abf5 cJ0_length_8abf5 1 (some .int), Cond.fieldLink RJ0 9 "java/lang/String" "value" "[B", Cond.methodLink RJ0 335 yJ0_coder_7d493, Cond.instanceMethod yJ0_coder_7d493, Cond.selects RJ0 yJ0_coder_7d493 yJ0_coder_7d493, Cond.code yJ0_coder_7d493 cJ0_coder_7d493 1 (some .byte), Cond.fieldLink RJ0 38 "java/lang/String" "COMPACT_STRINGS" "Z", Cond.fieldLink RJ0 15 "java/lang/String" "coder" "B", Cond.methodLink RX12 166 yJ0_charAt_5068e]
def wsX12_readItem_r3 : List Cond := [Cond.instanceMethod yJ0_charAt_5068e, Cond.selects RJ0 yJ0_charAt_5068e yJ0_charAt_5068e, Cond.code yJ0_charAt_5068e cJ0_charAt_5068e 2 (some .char), Cond.methodLink RJ0 492 yJ0_isLatin1_aae02, Cond.instanceMethod yJ0_isLatin1_aae02, Cond.selects RJ0 yJ0_isLatin1_aae02 yJ0_isLatin1_aae02, Cond.code yJ0_isLatin1_aae02 cJ0_isLatin1_aae02 1 (some .boolean), Cond.methodLink RJ0 495 yJ1_charAt_3b067, Cond.static yJ1_charAt_3b067, Cond.initialized RJ1, Cond.code yJ1_charAt_3b067 cJ1_charAt_3b067 2 (some .char), Cond.methodLink RJ1 9 yJ0_checkIndex_df160, Cond.static yJ0_checkIndex_df160, Cond.code yJ0_checkIndex_df160 cJ0_checkIndex_df160 2 none, Cond.fieldLink RJ0 1053 "jdk/internal/util/Preconditions" "SIOOBE_FORMATTER" "Ljava/util/function/BiFunction;", Cond.methodLink RJ0 1059 yJ3_checkIndex_8e157, Cond.static yJ3_checkIndex_8e157, Cond.initialized RJ3, Cond.code yJ3_checkIndex_8e157 cJ3_checkIndex_8e157 3 (some .int), Cond.methodLink RJ0 498 yJ2_charAt_3b067, Cond.static yJ2_charAt_3b067, Cond.initialized RJ2, Cond.code yJ2_charAt_3b067 cJ2_charAt_3b067 2 (some .char), Cond.methodLink RJ2 67 yJ2_checkIndex_2214a]
def wsX12_readItem_r4 : List Cond := [Cond.static yJ2_checkIndex_2214a, Cond.code yJ2_checkIndex_2214a cJ2_checkIndex_2214a 2 none, Cond.methodLink RJ2 48 yJ2_length_9d52b, Cond.static yJ2_length_9d52b, Cond.code yJ2_length_9d52b cJ2_length_9d52b 1 (some .int), Cond.methodLink RJ2 414 yJ0_checkIndex_df160, Cond.methodLink RJ2 71 yJ2_getChar_3b067, Cond.static yJ2_getChar_3b067, Cond.code yJ2_getChar_3b067 cJ2_getChar_3b067 2 (some .char), Cond.fieldLink RJ2 44 "java/lang/StringUTF16" "$assertionsDisabled" "Z", Cond.fieldLink RJ2 59 "java/lang/StringUTF16" "HI_BYTE_SHIFT" "I", Cond.fieldLink RJ2 63 "java/lang/StringUTF16" "LO_BYTE_SHIFT" "I", Cond.methodLink RX12 203 yX12_take, Cond.instanceMethod yX12_take, Cond.selects RX12 yX12_take yX12_take, Cond.code yX12_take cX12_take 7 (some .boolean), Cond.methodLink RX12 207 yX12_same, Cond.static yX12_same, Cond.code yX12_same cX12_same 5 (some .boolean), Cond.methodLink RX12 215 yX12_readPart, Cond.instanceMethod yX12_readPart, Cond.selects RX12 yX12_readPart yX12_readPart, Cond.code yX12_readPart cX12_readPart 3 (some .boolean), Cond.fieldLink RX12 24 "SpellTurnerModel" "parts" "[I"]
def wsX12_readItem_r5 : List Cond := [Cond.fieldLink RX12 43 "SpellTurnerModel" "partText" "[B", Cond.fieldLink RX12 46 "SpellTurnerModel" "partSize" "[I", Cond.methodLink RX12 219 yX12_readLaw, Cond.instanceMethod yX12_readLaw, Cond.selects RX12 yX12_readLaw yX12_readLaw, Cond.code yX12_readLaw cX12_readLaw 4 (some .boolean), Cond.fieldLink RX12 21 "SpellTurnerModel" "laws" "[I", Cond.fieldLink RX12 30 "SpellTurnerModel" "lawText" "[B", Cond.fieldLink RX12 33 "SpellTurnerModel" "lawSize" "[I", Cond.fieldLink RX12 36 "SpellTurnerModel" "atStart" "[Z", Cond.fieldLink RX12 40 "SpellTurnerModel" "atEnd" "[Z"]
def wsX12_readItem : List Cond := .code yX12_readItem cX12_readItem 2 (some .boolean) :: ((wsX12_readItem_r1 ++ (wsX12_readItem_r2 ++ (wsX12_readItem_r3 ++ (wsX12_readItem_r4 ++ wsX12_readItem_r5)))) ++ wsX120)
def wsX12_copy : List Cond := .code yX12_copy cX12_copy 5 none :: ([])
def wsX12_reform_r1 : List Cond := [Cond.fieldLink RX12 152 "SpellTurnerModel" "taped" "I", Cond.fieldLink RX12 155 "SpellTurnerModel" "size" "I", Cond.fieldLink RX12 222 "SpellTurnerModel" "reforms" "I", Cond.fieldLink RX12 17 "SpellTurnerModel" "day" "[I", Cond.constant RX12 225 (100000), Cond.fieldLink RX12 194 "SpellTurnerModel" "faultKind" "I", Cond.fieldLink RX12 13 "SpellTurnerModel" "faultPlace" "I", Cond.fieldLink RX12 21 "SpellTurnerModel" "laws" "[I", Cond.fieldLink RX12 24 "SpellTurnerModel" "parts" "[I", Cond.fieldLink RX12 27 "SpellTurnerModel" "listed" "[I", Cond.fieldLink RX12 174 "SpellTurnerModel" "end" "I", Cond.fieldLink RX12 180 "SpellTurnerModel" "sort" "I", Cond.fieldLink RX12 30 "SpellTurnerModel" "lawText" "[B", Cond.fieldLink RX12 33 "SpellTurnerModel" "lawSize" "[I", Cond.fieldLink RX12 36 "SpellTurnerModel" "atStart" "[Z", Cond.fieldLink RX12 40 "SpellTurnerModel" "atEnd" "[Z", Cond.fieldLink RX12 43 "SpellTurnerModel" "partText" "[B", Cond.fieldLink RX12 46 "SpellTurnerModel" "partSize" "[I", Cond.fieldLink RX12 49 "SpellTurnerModel" "listText" "[B", Cond.fieldLink RX12 52 "SpellTurnerModel" "listSize" "[I", Cond.fieldLink RX12 237 "SpellTurnerModel" "isMade" "Z", Cond.methodLink RX12 226 yX12_in, Cond.static yX12_in, Cond.initialized RX12]
def wsX12_reform_r2 : List Cond := [Cond.code yX12_in cX12_in 3 (some .boolean), Cond.methodLink RX12 200 yX12_scan, Cond.instanceMethod yX12_scan, Cond.selects RX12 yX12_scan yX12_scan, Cond.code yX12_scan cX12_scan 4 none, Cond.fieldLink RX12 177 "SpellTurnerModel" "at" "I", Cond.fieldLink RX12 191 "SpellTurnerModel" "what" "I", Cond.methodLink RX12 170 yX12_see, Cond.instanceMethod yX12_see, Cond.selects RX12 yX12_see yX12_see, Cond.code yX12_see cX12_see 2 (some .int), Cond.fieldLink RX12 7 "SpellTurnerModel" "tape" "[B", Cond.methodLink RX12 183 yX12_isSmall, Cond.static yX12_isSmall, Cond.code yX12_isSmall cX12_isSmall 1 (some .boolean), Cond.methodLink RX12 187 yX12_keyAt, Cond.instanceMethod yX12_keyAt, Cond.selects RX12 yX12_keyAt yX12_keyAt, Cond.code yX12_keyAt cX12_keyAt 8 (some .int), Cond.methodLink RX12 160 yJ0_length_8abf5, Cond.instanceMethod yJ0_length_8abf5, Cond.selects RJ0 yJ0_length_8abf5 yJ0_length_8abf5, Cond.initialized RJ0, Cond.code yJ0_length_8abf5 cJ0_length_8abf5 1 (some .int)]
def wsX12_reform_r3 : List Cond := [Cond.fieldLink RJ0 9 "java/lang/String" "value" "[B", Cond.methodLink RJ0 335 yJ0_coder_7d493, Cond.instanceMethod yJ0_coder_7d493, Cond.selects RJ0 yJ0_coder_7d493 yJ0_coder_7d493, Cond.code yJ0_coder_7d493 cJ0_coder_7d493 1 (some .byte), Cond.fieldLink RJ0 38 "java/lang/String" "COMPACT_STRINGS" "Z", Cond.fieldLink RJ0 15 "java/lang/String" "coder" "B", Cond.methodLink RX12 166 yJ0_charAt_5068e, Cond.instanceMethod yJ0_charAt_5068e, Cond.selects RJ0 yJ0_charAt_5068e yJ0_charAt_5068e, Cond.code yJ0_charAt_5068e cJ0_charAt_5068e 2 (some .char), Cond.methodLink RJ0 492 yJ0_isLatin1_aae02, Cond.instanceMethod yJ0_isLatin1_aae02, Cond.selects RJ0 yJ0_isLatin1_aae02 yJ0_isLatin1_aae02, Cond.code yJ0_isLatin1_aae02 cJ0_isLatin1_aae02 1 (some .boolean), Cond.methodLink RJ0 495 yJ1_charAt_3b067, Cond.static yJ1_charAt_3b067, Cond.initialized RJ1, Cond.code yJ1_charAt_3b067 cJ1_charAt_3b067 2 (some .char), Cond.methodLink RJ1 9 yJ0_checkIndex_df160, Cond.static yJ0_checkIndex_df160, Cond.code yJ0_checkIndex_df160 cJ0_checkIndex_df160 2 none, Cond.fieldLink RJ0 1053 "jdk/internal/util/Preconditions" "SIOOBE_FORMATTER" "Ljava/util/function/BiFunction;", Cond.methodLink RJ0 1059 yJ3_checkIndex_8e157]
def wsX12_reform_r4 : List Cond := [Cond.static yJ3_checkIndex_8e157, Cond.initialized RJ3, Cond.code yJ3_checkIndex_8e157 cJ3_checkIndex_8e157 3 (some .int), Cond.methodLink RJ0 498 yJ2_charAt_3b067, Cond.static yJ2_charAt_3b067, Cond.initialized RJ2, Cond.code yJ2_charAt_3b067 cJ2_charAt_3b067 2 (some .char), Cond.methodLink RJ2 67 yJ2_checkIndex_2214a, Cond.static yJ2_checkIndex_2214a, Cond.code yJ2_checkIndex_2214a cJ2_checkIndex_2214a 2 none, Cond.methodLink RJ2 48 yJ2_length_9d52b, Cond.static yJ2_length_9d52b, Cond.code yJ2_length_9d52b cJ2_length_9d52b 1 (some .int), Cond.methodLink RJ2 414 yJ0_checkIndex_df160, Cond.methodLink RJ2 71 yJ2_getChar_3b067, Cond.static yJ2_getChar_3b067, Cond.code yJ2_getChar_3b067 cJ2_getChar_3b067 2 (some .char), Cond.fieldLink RJ2 44 "java/lang/StringUTF16" "$assertionsDisabled" "Z", Cond.fieldLink RJ2 59 "java/lang/StringUTF16" "HI_BYTE_SHIFT" "I", Cond.fieldLink RJ2 63 "java/lang/StringUTF16" "LO_BYTE_SHIFT" "I", Cond.methodLink RX12 230 yX12_readItem, Cond.instanceMethod yX12_readItem, Cond.selects RX12 yX12_readItem yX12_readItem, Cond.code yX12_readItem cX12_readItem 2 (some .boolean)]
def wsX12_reform_r5 : List Cond := [Cond.methodLink RX12 197 yX12_wrong, Cond.instanceMethod yX12_wrong, Cond.selects RX12 yX12_wrong yX12_wrong, Cond.code yX12_wrong cX12_wrong 2 (some .boolean), Cond.methodLink RX12 211 yX12_readListed, Cond.instanceMethod yX12_readListed, Cond.selects RX12 yX12_readListed yX12_readListed, Cond.code yX12_readListed cX12_readListed 4 (some .boolean), Cond.methodLink RX12 203 yX12_take, Cond.instanceMethod yX12_take, Cond.selects RX12 yX12_take yX12_take, Cond.code yX12_take cX12_take 7 (some .boolean), Cond.methodLink RX12 207 yX12_same, Cond.static yX12_same, Cond.code yX12_same cX12_same 5 (some .boolean), Cond.methodLink RX12 215 yX12_readPart, Cond.instanceMethod yX12_readPart, Cond.selects RX12 yX12_readPart yX12_readPart, Cond.code yX12_readPart cX12_readPart 3 (some .boolean), Cond.methodLink RX12 219 yX12_readLaw, Cond.instanceMethod yX12_readLaw, Cond.selects RX12 yX12_readLaw yX12_readLaw, Cond.code yX12_readLaw cX12_readLaw 4 (some .boolean), Cond.methodLink RX12 233 yX12_copy]
def wsX12_reform_r6 : List Cond := [Cond.static yX12_copy, Cond.code yX12_copy cX12_copy 5 none]
def wsX12_reform : List Cond := .code yX12_reform cX12_reform 4 (some .int) :: ((wsX12_reform_r1 ++ (wsX12_reform_r2 ++ (wsX12_reform_r3 ++ (wsX12_reform_r4 ++ (wsX12_reform_r5 ++ wsX12_reform_r6))))) ++ wsX120)
def wsX12_fault : List Cond := .code yX12_fault cX12_fault 2 (some .int) :: ([.fieldLink RX12 194 "SpellTurnerModel" "faultKind" "I", .fieldLink RX12 13 "SpellTurnerModel" "faultPlace" "I"] ++ wsX120)
def wsX12_about : List Cond := .code yX12_about cX12_about 5 (some .int) :: ([.fieldLink RX12 222 "SpellTurnerModel" "reforms" "I", .fieldLink RX12 27 "SpellTurnerModel" "listed" "[I", .fieldLink RX12 52 "SpellTurnerModel" "listSize" "[I", .fieldLink RX12 17 "SpellTurnerModel" "day" "[I", .fieldLink RX12 21 "SpellTurnerModel" "laws" "[I", .fieldLink RX12 24 "SpellTurnerModel" "parts" "[I", .methodLink RX12 226 yX12_in, .static yX12_in, .initialized RX12, .code yX12_in cX12_in 3 (some .boolean)] ++ wsX120)
def wsX12_stage : List Cond := .code yX12_stage cX12_stage 4 (some .int) :: ([.constant RX12 225 (100000), .fieldLink RX12 222 "SpellTurnerModel" "reforms" "I", .fieldLink RX12 17 "SpellTurnerModel" "day" "[I", .methodLink RX12 226 yX12_in, .static yX12_in, .initialized RX12, .code yX12_in cX12_in 3 (some .boolean)] ++ wsX120)
def wsX12_isWordPart : List Cond := .code yX12_isWordPart cX12_isWordPart 7 (some .boolean) :: ([.fieldLink RX12 24 "SpellTurnerModel" "parts" "[I", .fieldLink RX12 46 "SpellTurnerModel" "partSize" "[I", .fieldLink RX12 43 "SpellTurnerModel" "partText" "[B", .fieldLink RX12 55 "SpellTurnerModel" "word" "[B"] ++ wsX120)
def wsX12_part : List Cond := .code yX12_part cX12_part 5 none :: ([.fieldLink RX12 241 "SpellTurnerModel" "wayMany" "I", .fieldLink RX12 244 "SpellTurnerModel" "letters" "I", .fieldLink RX12 61 "SpellTurnerModel" "ways" "[I", .fieldLink RX12 58 "SpellTurnerModel" "lengths" "[I", .fieldLink RX12 64 "SpellTurnerModel" "wayParts" "[I", .fieldLink RX12 67 "SpellTurnerModel" "canEnd" "[Z", .methodLink RX12 247 yX12_isWordPart, .instanceMethod yX12_isWordPart, .selects RX12 yX12_isWordPart yX12_isWordPart, .initialized RX12, .code yX12_isWordPart cX12_isWordPart 7 (some .boolean), .fieldLink RX12 24 "SpellTurnerModel" "parts" "[I", .fieldLink RX12 46 "SpellTurnerModel" "partSize" "[I", .fieldLink RX12 43 "SpellTurnerModel" "partText" "[B", .fieldLink RX12 55 "SpellTurnerModel" "word" "[B", .methodLink RX12 250 yX12_part, .instanceMethod yX12_part, .selects RX12 yX12_part yX12_part] ++ wsX120)
def wsX12_makeWays : List Cond := .code yX12_makeWays cX12_makeWays 4 none :: ([.fieldLink RX12 67 "SpellTurnerModel" "canEnd" "[Z", .fieldLink RX12 244 "SpellTurnerModel" "letters" "I", .fieldLink RX12 241 "SpellTurnerModel" "wayMany" "I", .methodLink RX12 247 yX12_isWordPart, .instanceMethod yX12_isWordPart, .selects RX12 yX12_isWordPart yX12_isWordPart, .initialized RX12, .code yX12_isWordPart cX12_isWordPart 7 (some .boolean), .fieldLink RX12 24 "SpellTurnerModel" "parts" "[I", .fieldLink RX12 46 "SpellTurnerModel" "partSize" "[I", .fieldLink RX12 43 "SpellTurnerModel" "partText" "[B", .fieldLink RX12 55 "SpellTurnerModel" "word" "[B", .methodLink RX12 250 yX12_part, .instanceMethod yX12_part, .selects RX12 yX12_part yX12_part, .code yX12_part cX12_part 5 none, .fieldLink RX12 61 "SpellTurnerModel" "ways" "[I", .fieldLink RX12 58 "SpellTurnerModel" "lengths" "[I", .fieldLink RX12 64 "SpellTurnerModel" "wayParts" "[I"] ++ wsX120)
def wsX12_stands : List Cond := .code yX12_stands cX12_stands 6 (some .boolean) :: ([.fieldLink RX12 33 "SpellTurnerModel" "lawSize" "[I", .fieldLink RX12 30 "SpellTurnerModel" "lawText" "[B"] ++ wsX120)
def wsX12_lawThrough : List Cond := .code yX12_lawThrough cX12_lawThrough 8 none :: ([.fieldLink RX12 33 "SpellTurnerModel" "lawSize" "[I", .fieldLink RX12 253 "SpellTurnerModel" "partLetters" "I", .fieldLink RX12 70 "SpellTurnerModel" "part" "[B", .fieldLink RX12 36 "SpellTurnerModel" "atStart" "[Z", .fieldLink RX12 40 "SpellTurnerModel" "atEnd" "[Z", .fieldLink RX12 73 "SpellTurnerModel" "written" "[B", .fieldLink RX12 30 "SpellTurnerModel" "lawText" "[B", .fieldLink RX12 260 "SpellTurnerModel" "isUsed" "Z", .fieldLink RX12 263 "SpellTurnerModel" "lawAsked" "I", .methodLink RX12 256 yX12_stands, .instanceMethod yX12_stands, .selects RX12 yX12_stands yX12_stands, .initialized RX12, .code yX12_stands cX12_stands 6 (some .boolean)] ++ wsX120)
def wsX12_sameBytes : List Cond := .code yX12_sameBytes cX12_sameBytes 7 (some .boolean) :: ([])
def wsX12_makeForm_r1 : List Cond := [Cond.fieldLink RX12 64 "SpellTurnerModel" "wayParts" "[I", Cond.fieldLink RX12 244 "SpellTurnerModel" "letters" "I", Cond.fieldLink RX12 61 "SpellTurnerModel" "ways" "[I", Cond.fieldLink RX12 70 "SpellTurnerModel" "part" "[B", Cond.fieldLink RX12 55 "SpellTurnerModel" "word" "[B", Cond.fieldLink RX12 253 "SpellTurnerModel" "partLetters" "I", Cond.fieldLink RX12 21 "SpellTurnerModel" "laws" "[I", Cond.fieldLink RX12 76 "SpellTurnerModel" "made" "[B", Cond.fieldLink RX12 270 "SpellTurnerModel" "mades" "I", Cond.fieldLink RX12 79 "SpellTurnerModel" "madeSize" "[I", Cond.methodLink RX12 266 yX12_lawThrough, Cond.instanceMethod yX12_lawThrough, Cond.selects RX12 yX12_lawThrough yX12_lawThrough, Cond.initialized RX12, Cond.code yX12_lawThrough cX12_lawThrough 8 none, Cond.fieldLink RX12 33 "SpellTurnerModel" "lawSize" "[I", Cond.fieldLink RX12 36 "SpellTurnerModel" "atStart" "[Z", Cond.fieldLink RX12 40 "SpellTurnerModel" "atEnd" "[Z", Cond.fieldLink RX12 73 "SpellTurnerModel" "written" "[B", Cond.fieldLink RX12 30 "SpellTurnerModel" "lawText" "[B", Cond.fieldLink RX12 260 "SpellTurnerModel" "isUsed" "Z", Cond.fieldLink RX12 263 "SpellTurnerModel" "lawAsked" "I", Cond.methodLink RX12 256 yX12_stands, Cond.instanceMethod yX12_stands]
def wsX12_makeForm_r2 : List Cond := [Cond.selects RX12 yX12_stands yX12_stands, Cond.code yX12_stands cX12_stands 6 (some .boolean), Cond.methodLink RX12 273 yX12_sameBytes, Cond.static yX12_sameBytes, Cond.code yX12_sameBytes cX12_sameBytes 7 (some .boolean)]
def wsX12_makeForm : List Cond := .code yX12_makeForm cX12_makeForm 10 none :: ((wsX12_makeForm_r1 ++ wsX12_makeForm_r2) ++ wsX120)
def wsX12_listedAs : List Cond := .code yX12_listedAs cX12_listedAs 3 (some .int) :: ([.fieldLink RX12 27 "SpellTurnerModel" "listed" "[I", .fieldLink RX12 49 "SpellTurnerModel" "listText" "[B", .fieldLink RX12 52 "SpellTurnerModel" "listSize" "[I", .fieldLink RX12 55 "SpellTurnerModel" "word" "[B", .fieldLink RX12 244 "SpellTurnerModel" "letters" "I", .methodLink RX12 273 yX12_sameBytes, .static yX12_sameBytes, .initialized RX12, .code yX12_sameBytes cX12_sameBytes 7 (some .boolean)] ++ wsX120)
def wsX12_turnBy_r1 : List Cond := [Cond.fieldLink RX12 270 "SpellTurnerModel" "mades" "I", Cond.fieldLink RX12 241 "SpellTurnerModel" "wayMany" "I", Cond.fieldLink RX12 52 "SpellTurnerModel" "listSize" "[I", Cond.fieldLink RX12 244 "SpellTurnerModel" "letters" "I", Cond.fieldLink RX12 76 "SpellTurnerModel" "made" "[B", Cond.fieldLink RX12 55 "SpellTurnerModel" "word" "[B", Cond.fieldLink RX12 49 "SpellTurnerModel" "listText" "[B", Cond.fieldLink RX12 79 "SpellTurnerModel" "madeSize" "[I", Cond.methodLink RX12 277 yX12_listedAs, Cond.instanceMethod yX12_listedAs, Cond.selects RX12 yX12_listedAs yX12_listedAs, Cond.initialized RX12, Cond.code yX12_listedAs cX12_listedAs 3 (some .int), Cond.fieldLink RX12 27 "SpellTurnerModel" "listed" "[I", Cond.methodLink RX12 273 yX12_sameBytes, Cond.static yX12_sameBytes, Cond.code yX12_sameBytes cX12_sameBytes 7 (some .boolean), Cond.methodLink RX12 280 yX12_makeWays, Cond.instanceMethod yX12_makeWays, Cond.selects RX12 yX12_makeWays yX12_makeWays, Cond.code yX12_makeWays cX12_makeWays 4 none, Cond.fieldLink RX12 67 "SpellTurnerModel" "canEnd" "[Z", Cond.methodLink RX12 247 yX12_isWordPart, Cond.instanceMethod yX12_isWordPart]
def wsX12_turnBy_r2 : List Cond := [Cond.selects RX12 yX12_isWordPart yX12_isWordPart, Cond.code yX12_isWordPart cX12_isWordPart 7 (some .boolean), Cond.fieldLink RX12 24 "SpellTurnerModel" "parts" "[I", Cond.fieldLink RX12 46 "SpellTurnerModel" "partSize" "[I", Cond.fieldLink RX12 43 "SpellTurnerModel" "partText" "[B", Cond.methodLink RX12 250 yX12_part, Cond.instanceMethod yX12_part, Cond.selects RX12 yX12_part yX12_part, Cond.code yX12_part cX12_part 5 none, Cond.fieldLink RX12 61 "SpellTurnerModel" "ways" "[I", Cond.fieldLink RX12 58 "SpellTurnerModel" "lengths" "[I", Cond.fieldLink RX12 64 "SpellTurnerModel" "wayParts" "[I", Cond.methodLink RX12 283 yX12_makeForm, Cond.instanceMethod yX12_makeForm, Cond.selects RX12 yX12_makeForm yX12_makeForm, Cond.code yX12_makeForm cX12_makeForm 10 none, Cond.fieldLink RX12 70 "SpellTurnerModel" "part" "[B", Cond.fieldLink RX12 253 "SpellTurnerModel" "partLetters" "I", Cond.fieldLink RX12 21 "SpellTurnerModel" "laws" "[I", Cond.methodLink RX12 266 yX12_lawThrough, Cond.instanceMethod yX12_lawThrough, Cond.selects RX12 yX12_lawThrough yX12_lawThrough, Cond.code yX12_lawThrough cX12_lawThrough 8 none, Cond.fieldLink RX12 33 "SpellTurnerModel" "lawSize" "[I"]
def wsX12_turnBy_r3 : List Cond := [Cond.fieldLink RX12 36 "SpellTurnerModel" "atStart" "[Z", Cond.fieldLink RX12 40 "SpellTurnerModel" "atEnd" "[Z", Cond.fieldLink RX12 73 "SpellTurnerModel" "written" "[B", Cond.fieldLink RX12 30 "SpellTurnerModel" "lawText" "[B", Cond.fieldLink RX12 260 "SpellTurnerModel" "isUsed" "Z", Cond.fieldLink RX12 263 "SpellTurnerModel" "lawAsked" "I", Cond.methodLink RX12 256 yX12_stands, Cond.instanceMethod yX12_stands, Cond.selects RX12 yX12_stands yX12_stands, Cond.code yX12_stands cX12_stands 6 (some .boolean)]
def wsX12_turnBy : List Cond := .code yX12_turnBy cX12_turnBy 6 none :: ((wsX12_turnBy_r1 ++ (wsX12_turnBy_r2 ++ wsX12_turnBy_r3)) ++ wsX120)
def wsX12_takeWord : List Cond := .code yX12_takeWord cX12_takeWord 5 none :: ([.fieldLink RX12 55 "SpellTurnerModel" "word" "[B", .fieldLink RX12 244 "SpellTurnerModel" "letters" "I"] ++ wsX120)
def wsX12_through_r1 : List Cond := [Cond.fieldLink RX12 244 "SpellTurnerModel" "letters" "I", Cond.fieldLink RX12 82 "SpellTurnerModel" "now" "[B", Cond.fieldLink RX12 55 "SpellTurnerModel" "word" "[B", Cond.fieldLink RX12 85 "SpellTurnerModel" "nowSize" "[I", Cond.fieldLink RX12 287 "SpellTurnerModel" "nows" "I", Cond.fieldLink RX12 270 "SpellTurnerModel" "mades" "I", Cond.fieldLink RX12 88 "SpellTurnerModel" "next" "[B", Cond.fieldLink RX12 91 "SpellTurnerModel" "nextSize" "[I", Cond.fieldLink RX12 76 "SpellTurnerModel" "made" "[B", Cond.fieldLink RX12 79 "SpellTurnerModel" "madeSize" "[I", Cond.methodLink RX12 290 yX12_takeWord, Cond.instanceMethod yX12_takeWord, Cond.selects RX12 yX12_takeWord yX12_takeWord, Cond.initialized RX12, Cond.code yX12_takeWord cX12_takeWord 5 none, Cond.methodLink RX12 294 yX12_turnBy, Cond.instanceMethod yX12_turnBy, Cond.selects RX12 yX12_turnBy yX12_turnBy, Cond.code yX12_turnBy cX12_turnBy 6 none, Cond.fieldLink RX12 241 "SpellTurnerModel" "wayMany" "I", Cond.fieldLink RX12 52 "SpellTurnerModel" "listSize" "[I", Cond.fieldLink RX12 49 "SpellTurnerModel" "listText" "[B", Cond.methodLink RX12 277 yX12_listedAs, Cond.instanceMethod yX12_listedAs]
def wsX12_through_r2 : List Cond := [Cond.selects RX12 yX12_listedAs yX12_listedAs, Cond.code yX12_listedAs cX12_listedAs 3 (some .int), Cond.fieldLink RX12 27 "SpellTurnerModel" "listed" "[I", Cond.methodLink RX12 273 yX12_sameBytes, Cond.static yX12_sameBytes, Cond.code yX12_sameBytes cX12_sameBytes 7 (some .boolean), Cond.methodLink RX12 280 yX12_makeWays, Cond.instanceMethod yX12_makeWays, Cond.selects RX12 yX12_makeWays yX12_makeWays, Cond.code yX12_makeWays cX12_makeWays 4 none, Cond.fieldLink RX12 67 "SpellTurnerModel" "canEnd" "[Z", Cond.methodLink RX12 247 yX12_isWordPart, Cond.instanceMethod yX12_isWordPart, Cond.selects RX12 yX12_isWordPart yX12_isWordPart, Cond.code yX12_isWordPart cX12_isWordPart 7 (some .boolean), Cond.fieldLink RX12 24 "SpellTurnerModel" "parts" "[I", Cond.fieldLink RX12 46 "SpellTurnerModel" "partSize" "[I", Cond.fieldLink RX12 43 "SpellTurnerModel" "partText" "[B", Cond.methodLink RX12 250 yX12_part, Cond.instanceMethod yX12_part, Cond.selects RX12 yX12_part yX12_part, Cond.code yX12_part cX12_part 5 none, Cond.fieldLink RX12 61 "SpellTurnerModel" "ways" "[I", Cond.fieldLink RX12 58 "SpellTurnerModel" "lengths" "[I"]
def wsX12_through_r3 : List Cond := [Cond.fieldLink RX12 64 "SpellTurnerModel" "wayParts" "[I", Cond.methodLink RX12 283 yX12_makeForm, Cond.instanceMethod yX12_makeForm, Cond.selects RX12 yX12_makeForm yX12_makeForm, Cond.code yX12_makeForm cX12_makeForm 10 none, Cond.fieldLink RX12 70 "SpellTurnerModel" "part" "[B", Cond.fieldLink RX12 253 "SpellTurnerModel" "partLetters" "I", Cond.fieldLink RX12 21 "SpellTurnerModel" "laws" "[I", Cond.methodLink RX12 266 yX12_lawThrough, Cond.instanceMethod yX12_lawThrough, Cond.selects RX12 yX12_lawThrough yX12_lawThrough, Cond.code yX12_lawThrough cX12_lawThrough 8 none, Cond.fieldLink RX12 33 "SpellTurnerModel" "lawSize" "[I", Cond.fieldLink RX12 36 "SpellTurnerModel" "atStart" "[Z", Cond.fieldLink RX12 40 "SpellTurnerModel" "atEnd" "[Z", Cond.fieldLink RX12 73 "SpellTurnerModel" "written" "[B", Cond.fieldLink RX12 30 "SpellTurnerModel" "lawText" "[B", Cond.fieldLink RX12 260 "SpellTurnerModel" "isUsed" "Z", Cond.fieldLink RX12 263 "SpellTurnerModel" "lawAsked" "I", Cond.methodLink RX12 256 yX12_stands, Cond.instanceMethod yX12_stands, Cond.selects RX12 yX12_stands yX12_stands, Cond.code yX12_stands cX12_stands 6 (some .boolean)]
def wsX12_through : List Cond := .code yX12_through cX12_through 9 none :: ((wsX12_through_r1 ++ (wsX12_through_r2 ++ wsX12_through_r3)) ++ wsX120)
def wsX12_readWord : List Cond := .code yX12_readWord cX12_readWord 3 (some .boolean) :: ([.fieldLink RX12 152 "SpellTurnerModel" "taped" "I", .fieldLink RX12 7 "SpellTurnerModel" "tape" "[B", .methodLink RX12 226 yX12_in, .static yX12_in, .initialized RX12, .code yX12_in cX12_in 3 (some .boolean), .methodLink RX12 183 yX12_isSmall, .static yX12_isSmall, .code yX12_isSmall cX12_isSmall 1 (some .boolean), .methodLink RX12 290 yX12_takeWord, .instanceMethod yX12_takeWord, .selects RX12 yX12_takeWord yX12_takeWord, .code yX12_takeWord cX12_takeWord 5 none, .fieldLink RX12 55 "SpellTurnerModel" "word" "[B", .fieldLink RX12 244 "SpellTurnerModel" "letters" "I"] ++ wsX120)
def wsX12_isStage : List Cond := .code yX12_isStage cX12_isStage 2 (some .boolean) :: ([.fieldLink RX12 222 "SpellTurnerModel" "reforms" "I", .methodLink RX12 226 yX12_in, .static yX12_in, .initialized RX12, .code yX12_in cX12_in 3 (some .boolean)] ++ wsX120)
def wsX12_turn_r1 : List Cond := [Cond.fieldLink RX12 287 "SpellTurnerModel" "nows" "I", Cond.fieldLink RX12 306 "SpellTurnerModel" "tolds" "I", Cond.fieldLink RX12 97 "SpellTurnerModel" "toldSize" "[I", Cond.fieldLink RX12 85 "SpellTurnerModel" "nowSize" "[I", Cond.fieldLink RX12 94 "SpellTurnerModel" "told" "[B", Cond.fieldLink RX12 82 "SpellTurnerModel" "now" "[B", Cond.methodLink RX12 297 yX12_readWord, Cond.instanceMethod yX12_readWord, Cond.selects RX12 yX12_readWord yX12_readWord, Cond.initialized RX12, Cond.code yX12_readWord cX12_readWord 3 (some .boolean), Cond.fieldLink RX12 152 "SpellTurnerModel" "taped" "I", Cond.fieldLink RX12 7 "SpellTurnerModel" "tape" "[B", Cond.methodLink RX12 226 yX12_in, Cond.static yX12_in, Cond.code yX12_in cX12_in 3 (some .boolean), Cond.methodLink RX12 183 yX12_isSmall, Cond.static yX12_isSmall, Cond.code yX12_isSmall cX12_isSmall 1 (some .boolean), Cond.methodLink RX12 290 yX12_takeWord, Cond.instanceMethod yX12_takeWord, Cond.selects RX12 yX12_takeWord yX12_takeWord, Cond.code yX12_takeWord cX12_takeWord 5 none, Cond.fieldLink RX12 55 "SpellTurnerModel" "word" "[B"]
def wsX12_turn_r2 : List Cond := [Cond.fieldLink RX12 244 "SpellTurnerModel" "letters" "I", Cond.methodLink RX12 300 yX12_isStage, Cond.instanceMethod yX12_isStage, Cond.selects RX12 yX12_isStage yX12_isStage, Cond.code yX12_isStage cX12_isStage 2 (some .boolean), Cond.fieldLink RX12 222 "SpellTurnerModel" "reforms" "I", Cond.methodLink RX12 303 yX12_through, Cond.instanceMethod yX12_through, Cond.selects RX12 yX12_through yX12_through, Cond.code yX12_through cX12_through 9 none, Cond.fieldLink RX12 270 "SpellTurnerModel" "mades" "I", Cond.fieldLink RX12 88 "SpellTurnerModel" "next" "[B", Cond.fieldLink RX12 91 "SpellTurnerModel" "nextSize" "[I", Cond.fieldLink RX12 76 "SpellTurnerModel" "made" "[B", Cond.fieldLink RX12 79 "SpellTurnerModel" "madeSize" "[I", Cond.methodLink RX12 294 yX12_turnBy, Cond.instanceMethod yX12_turnBy, Cond.selects RX12 yX12_turnBy yX12_turnBy, Cond.code yX12_turnBy cX12_turnBy 6 none, Cond.fieldLink RX12 241 "SpellTurnerModel" "wayMany" "I", Cond.fieldLink RX12 52 "SpellTurnerModel" "listSize" "[I", Cond.fieldLink RX12 49 "SpellTurnerModel" "listText" "[B", Cond.methodLink RX12 277 yX12_listedAs, Cond.instanceMethod yX12_listedAs]
def wsX12_turn_r3 : List Cond := [Cond.selects RX12 yX12_listedAs yX12_listedAs, Cond.code yX12_listedAs cX12_listedAs 3 (some .int), Cond.fieldLink RX12 27 "SpellTurnerModel" "listed" "[I", Cond.methodLink RX12 273 yX12_sameBytes, Cond.static yX12_sameBytes, Cond.code yX12_sameBytes cX12_sameBytes 7 (some .boolean), Cond.methodLink RX12 280 yX12_makeWays, Cond.instanceMethod yX12_makeWays, Cond.selects RX12 yX12_makeWays yX12_makeWays, Cond.code yX12_makeWays cX12_makeWays 4 none, Cond.fieldLink RX12 67 "SpellTurnerModel" "canEnd" "[Z", Cond.methodLink RX12 247 yX12_isWordPart, Cond.instanceMethod yX12_isWordPart, Cond.selects RX12 yX12_isWordPart yX12_isWordPart, Cond.code yX12_isWordPart cX12_isWordPart 7 (some .boolean), Cond.fieldLink RX12 24 "SpellTurnerModel" "parts" "[I", Cond.fieldLink RX12 46 "SpellTurnerModel" "partSize" "[I", Cond.fieldLink RX12 43 "SpellTurnerModel" "partText" "[B", Cond.methodLink RX12 250 yX12_part, Cond.instanceMethod yX12_part, Cond.selects RX12 yX12_part yX12_part, Cond.code yX12_part cX12_part 5 none, Cond.fieldLink RX12 61 "SpellTurnerModel" "ways" "[I", Cond.fieldLink RX12 58 "SpellTurnerModel" "lengths" "[I"]
def wsX12_turn_r4 : List Cond := [Cond.fieldLink RX12 64 "SpellTurnerModel" "wayParts" "[I", Cond.methodLink RX12 283 yX12_makeForm, Cond.instanceMethod yX12_makeForm, Cond.selects RX12 yX12_makeForm yX12_makeForm, Cond.code yX12_makeForm cX12_makeForm 10 none, Cond.fieldLink RX12 70 "SpellTurnerModel" "part" "[B", Cond.fieldLink RX12 253 "SpellTurnerModel" "partLetters" "I", Cond.fieldLink RX12 21 "SpellTurnerModel" "laws" "[I", Cond.methodLink RX12 266 yX12_lawThrough, Cond.instanceMethod yX12_lawThrough, Cond.selects RX12 yX12_lawThrough yX12_lawThrough, Cond.code yX12_lawThrough cX12_lawThrough 8 none, Cond.fieldLink RX12 33 "SpellTurnerModel" "lawSize" "[I", Cond.fieldLink RX12 36 "SpellTurnerModel" "atStart" "[Z", Cond.fieldLink RX12 40 "SpellTurnerModel" "atEnd" "[Z", Cond.fieldLink RX12 73 "SpellTurnerModel" "written" "[B", Cond.fieldLink RX12 30 "SpellTurnerModel" "lawText" "[B", Cond.fieldLink RX12 260 "SpellTurnerModel" "isUsed" "Z", Cond.fieldLink RX12 263 "SpellTurnerModel" "lawAsked" "I", Cond.methodLink RX12 256 yX12_stands, Cond.instanceMethod yX12_stands, Cond.selects RX12 yX12_stands yX12_stands, Cond.code yX12_stands cX12_stands 6 (some .boolean)]
def wsX12_turn : List Cond := .code yX12_turn cX12_turn 5 (some .int) :: ((wsX12_turn_r1 ++ (wsX12_turn_r2 ++ (wsX12_turn_r3 ++ wsX12_turn_r4))) ++ wsX120)
def wsX12_form : List Cond := .code yX12_form cX12_form 3 (some .int) :: ([.fieldLink RX12 306 "SpellTurnerModel" "tolds" "I", .fieldLink RX12 97 "SpellTurnerModel" "toldSize" "[I", .fieldLink RX12 94 "SpellTurnerModel" "told" "[B", .methodLink RX12 226 yX12_in, .static yX12_in, .initialized RX12, .code yX12_in cX12_in 3 (some .boolean)] ++ wsX120)
def wsX12_partings_r1 : List Cond := [Cond.fieldLink RX12 222 "SpellTurnerModel" "reforms" "I", Cond.fieldLink RX12 52 "SpellTurnerModel" "listSize" "[I", Cond.fieldLink RX12 241 "SpellTurnerModel" "wayMany" "I", Cond.fieldLink RX12 309 "SpellTurnerModel" "toldWayMany" "I", Cond.fieldLink RX12 103 "SpellTurnerModel" "toldParts" "[I", Cond.fieldLink RX12 64 "SpellTurnerModel" "wayParts" "[I", Cond.fieldLink RX12 100 "SpellTurnerModel" "toldWays" "[I", Cond.fieldLink RX12 61 "SpellTurnerModel" "ways" "[I", Cond.methodLink RX12 297 yX12_readWord, Cond.instanceMethod yX12_readWord, Cond.selects RX12 yX12_readWord yX12_readWord, Cond.initialized RX12, Cond.code yX12_readWord cX12_readWord 3 (some .boolean), Cond.fieldLink RX12 152 "SpellTurnerModel" "taped" "I", Cond.fieldLink RX12 7 "SpellTurnerModel" "tape" "[B", Cond.methodLink RX12 226 yX12_in, Cond.static yX12_in, Cond.code yX12_in cX12_in 3 (some .boolean), Cond.methodLink RX12 183 yX12_isSmall, Cond.static yX12_isSmall, Cond.code yX12_isSmall cX12_isSmall 1 (some .boolean), Cond.methodLink RX12 290 yX12_takeWord, Cond.instanceMethod yX12_takeWord, Cond.selects RX12 yX12_takeWord yX12_takeWord]
def wsX12_partings_r2 : List Cond := [Cond.code yX12_takeWord cX12_takeWord 5 none, Cond.fieldLink RX12 55 "SpellTurnerModel" "word" "[B", Cond.fieldLink RX12 244 "SpellTurnerModel" "letters" "I", Cond.methodLink RX12 277 yX12_listedAs, Cond.instanceMethod yX12_listedAs, Cond.selects RX12 yX12_listedAs yX12_listedAs, Cond.code yX12_listedAs cX12_listedAs 3 (some .int), Cond.fieldLink RX12 27 "SpellTurnerModel" "listed" "[I", Cond.fieldLink RX12 49 "SpellTurnerModel" "listText" "[B", Cond.methodLink RX12 273 yX12_sameBytes, Cond.static yX12_sameBytes, Cond.code yX12_sameBytes cX12_sameBytes 7 (some .boolean), Cond.methodLink RX12 280 yX12_makeWays, Cond.instanceMethod yX12_makeWays, Cond.selects RX12 yX12_makeWays yX12_makeWays, Cond.code yX12_makeWays cX12_makeWays 4 none, Cond.fieldLink RX12 67 "SpellTurnerModel" "canEnd" "[Z", Cond.methodLink RX12 247 yX12_isWordPart, Cond.instanceMethod yX12_isWordPart, Cond.selects RX12 yX12_isWordPart yX12_isWordPart, Cond.code yX12_isWordPart cX12_isWordPart 7 (some .boolean), Cond.fieldLink RX12 24 "SpellTurnerModel" "parts" "[I", Cond.fieldLink RX12 46 "SpellTurnerModel" "partSize" "[I", Cond.fieldLink RX12 43 "SpellTurnerModel" "partText" "[B"]
def wsX12_partings_r3 : List Cond := [Cond.methodLink RX12 250 yX12_part, Cond.instanceMethod yX12_part, Cond.selects RX12 yX12_part yX12_part, Cond.code yX12_part cX12_part 5 none, Cond.fieldLink RX12 58 "SpellTurnerModel" "lengths" "[I"]
def wsX12_partings : List Cond := .code yX12_partings cX12_partings 5 (some .int) :: ((wsX12_partings_r1 ++ (wsX12_partings_r2 ++ wsX12_partings_r3)) ++ wsX120)
def wsX12_parting : List Cond := .code yX12_parting cX12_parting 3 (some .int) :: ([.fieldLink RX12 309 "SpellTurnerModel" "toldWayMany" "I", .fieldLink RX12 103 "SpellTurnerModel" "toldParts" "[I", .fieldLink RX12 100 "SpellTurnerModel" "toldWays" "[I", .methodLink RX12 226 yX12_in, .static yX12_in, .initialized RX12, .code yX12_in cX12_in 3 (some .boolean)] ++ wsX120)
def wsX12_learn_r1 : List Cond := [Cond.fieldLink RX12 312 "SpellTurnerModel" "words" "I", Cond.fieldLink RX12 106 "SpellTurnerModel" "bookText" "[B", Cond.fieldLink RX12 109 "SpellTurnerModel" "bookSize" "[I", Cond.fieldLink RX12 55 "SpellTurnerModel" "word" "[B", Cond.fieldLink RX12 244 "SpellTurnerModel" "letters" "I", Cond.fieldLink RX12 237 "SpellTurnerModel" "isMade" "Z", Cond.methodLink RX12 297 yX12_readWord, Cond.instanceMethod yX12_readWord, Cond.selects RX12 yX12_readWord yX12_readWord, Cond.initialized RX12, Cond.code yX12_readWord cX12_readWord 3 (some .boolean), Cond.fieldLink RX12 152 "SpellTurnerModel" "taped" "I", Cond.fieldLink RX12 7 "SpellTurnerModel" "tape" "[B", Cond.methodLink RX12 226 yX12_in, Cond.static yX12_in, Cond.code yX12_in cX12_in 3 (some .boolean), Cond.methodLink RX12 183 yX12_isSmall, Cond.static yX12_isSmall, Cond.code yX12_isSmall cX12_isSmall 1 (some .boolean), Cond.methodLink RX12 290 yX12_takeWord, Cond.instanceMethod yX12_takeWord, Cond.selects RX12 yX12_takeWord yX12_takeWord, Cond.code yX12_takeWord cX12_takeWord 5 none, Cond.methodLink RX12 273 yX12_sameBytes]
def wsX12_learn_r2 : List Cond := [Cond.static yX12_sameBytes, Cond.code yX12_sameBytes cX12_sameBytes 7 (some .boolean)]
def wsX12_learn : List Cond := .code yX12_learn cX12_learn 2 (some .int) :: ((wsX12_learn_r1 ++ wsX12_learn_r2) ++ wsX120)
def wsX12_word : List Cond := .code yX12_word cX12_word 3 (some .int) :: ([.fieldLink RX12 312 "SpellTurnerModel" "words" "I", .fieldLink RX12 109 "SpellTurnerModel" "bookSize" "[I", .fieldLink RX12 106 "SpellTurnerModel" "bookText" "[B", .methodLink RX12 226 yX12_in, .static yX12_in, .initialized RX12, .code yX12_in cX12_in 3 (some .boolean)] ++ wsX120)
def wsX12_make_r1 : List Cond := [Cond.fieldLink RX12 237 "SpellTurnerModel" "isMade" "Z", Cond.fieldLink RX12 312 "SpellTurnerModel" "words" "I", Cond.fieldLink RX12 222 "SpellTurnerModel" "reforms" "I", Cond.fieldLink RX12 106 "SpellTurnerModel" "bookText" "[B", Cond.fieldLink RX12 109 "SpellTurnerModel" "bookSize" "[I", Cond.fieldLink RX12 119 "SpellTurnerModel" "formMany" "[I", Cond.fieldLink RX12 287 "SpellTurnerModel" "nows" "I", Cond.fieldLink RX12 116 "SpellTurnerModel" "formSize" "[I", Cond.fieldLink RX12 85 "SpellTurnerModel" "nowSize" "[I", Cond.fieldLink RX12 113 "SpellTurnerModel" "formText" "[B", Cond.fieldLink RX12 82 "SpellTurnerModel" "now" "[B", Cond.methodLink RX12 290 yX12_takeWord, Cond.instanceMethod yX12_takeWord, Cond.selects RX12 yX12_takeWord yX12_takeWord, Cond.initialized RX12, Cond.code yX12_takeWord cX12_takeWord 5 none, Cond.fieldLink RX12 55 "SpellTurnerModel" "word" "[B", Cond.fieldLink RX12 244 "SpellTurnerModel" "letters" "I", Cond.methodLink RX12 303 yX12_through, Cond.instanceMethod yX12_through, Cond.selects RX12 yX12_through yX12_through, Cond.code yX12_through cX12_through 9 none, Cond.fieldLink RX12 270 "SpellTurnerModel" "mades" "I", Cond.fieldLink RX12 88 "SpellTurnerModel" "next" "[B"]
def wsX12_make_r2 : List Cond := [Cond.fieldLink RX12 91 "SpellTurnerModel" "nextSize" "[I", Cond.fieldLink RX12 76 "SpellTurnerModel" "made" "[B", Cond.fieldLink RX12 79 "SpellTurnerModel" "madeSize" "[I", Cond.methodLink RX12 294 yX12_turnBy, Cond.instanceMethod yX12_turnBy, Cond.selects RX12 yX12_turnBy yX12_turnBy, Cond.code yX12_turnBy cX12_turnBy 6 none, Cond.fieldLink RX12 241 "SpellTurnerModel" "wayMany" "I", Cond.fieldLink RX12 52 "SpellTurnerModel" "listSize" "[I", Cond.fieldLink RX12 49 "SpellTurnerModel" "listText" "[B", Cond.methodLink RX12 277 yX12_listedAs, Cond.instanceMethod yX12_listedAs, Cond.selects RX12 yX12_listedAs yX12_listedAs, Cond.code yX12_listedAs cX12_listedAs 3 (some .int), Cond.fieldLink RX12 27 "SpellTurnerModel" "listed" "[I", Cond.methodLink RX12 273 yX12_sameBytes, Cond.static yX12_sameBytes, Cond.code yX12_sameBytes cX12_sameBytes 7 (some .boolean), Cond.methodLink RX12 280 yX12_makeWays, Cond.instanceMethod yX12_makeWays, Cond.selects RX12 yX12_makeWays yX12_makeWays, Cond.code yX12_makeWays cX12_makeWays 4 none, Cond.fieldLink RX12 67 "SpellTurnerModel" "canEnd" "[Z", Cond.methodLink RX12 247 yX12_isWordPart]
def wsX12_make_r3 : List Cond := [Cond.instanceMethod yX12_isWordPart, Cond.selects RX12 yX12_isWordPart yX12_isWordPart, Cond.code yX12_isWordPart cX12_isWordPart 7 (some .boolean), Cond.fieldLink RX12 24 "SpellTurnerModel" "parts" "[I", Cond.fieldLink RX12 46 "SpellTurnerModel" "partSize" "[I", Cond.fieldLink RX12 43 "SpellTurnerModel" "partText" "[B", Cond.methodLink RX12 250 yX12_part, Cond.instanceMethod yX12_part, Cond.selects RX12 yX12_part yX12_part, Cond.code yX12_part cX12_part 5 none, Cond.fieldLink RX12 61 "SpellTurnerModel" "ways" "[I", Cond.fieldLink RX12 58 "SpellTurnerModel" "lengths" "[I", Cond.fieldLink RX12 64 "SpellTurnerModel" "wayParts" "[I", Cond.methodLink RX12 283 yX12_makeForm, Cond.instanceMethod yX12_makeForm, Cond.selects RX12 yX12_makeForm yX12_makeForm, Cond.code yX12_makeForm cX12_makeForm 10 none, Cond.fieldLink RX12 70 "SpellTurnerModel" "part" "[B", Cond.fieldLink RX12 253 "SpellTurnerModel" "partLetters" "I", Cond.fieldLink RX12 21 "SpellTurnerModel" "laws" "[I", Cond.methodLink RX12 266 yX12_lawThrough, Cond.instanceMethod yX12_lawThrough, Cond.selects RX12 yX12_lawThrough yX12_lawThrough, Cond.code yX12_lawThrough cX12_lawThrough 8 none]
def wsX12_make_r4 : List Cond := [Cond.fieldLink RX12 33 "SpellTurnerModel" "lawSize" "[I", Cond.fieldLink RX12 36 "SpellTurnerModel" "atStart" "[Z", Cond.fieldLink RX12 40 "SpellTurnerModel" "atEnd" "[Z", Cond.fieldLink RX12 73 "SpellTurnerModel" "written" "[B", Cond.fieldLink RX12 30 "SpellTurnerModel" "lawText" "[B", Cond.fieldLink RX12 260 "SpellTurnerModel" "isUsed" "Z", Cond.fieldLink RX12 263 "SpellTurnerModel" "lawAsked" "I", Cond.methodLink RX12 256 yX12_stands, Cond.instanceMethod yX12_stands, Cond.selects RX12 yX12_stands yX12_stands, Cond.code yX12_stands cX12_stands 6 (some .boolean)]
def wsX12_make : List Cond := .code yX12_make cX12_make 6 none :: ((wsX12_make_r1 ++ (wsX12_make_r2 ++ (wsX12_make_r3 ++ wsX12_make_r4))) ++ wsX120)
def wsX12_hasForm : List Cond := .code yX12_hasForm cX12_hasForm 7 (some .boolean) :: ([.fieldLink RX12 119 "SpellTurnerModel" "formMany" "[I", .fieldLink RX12 113 "SpellTurnerModel" "formText" "[B", .fieldLink RX12 116 "SpellTurnerModel" "formSize" "[I", .methodLink RX12 273 yX12_sameBytes, .static yX12_sameBytes, .initialized RX12, .code yX12_sameBytes cX12_sameBytes 7 (some .boolean)] ++ wsX120)
def wsX12_back_r1 : List Cond := [Cond.fieldLink RX12 244 "SpellTurnerModel" "letters" "I", Cond.fieldLink RX12 125 "SpellTurnerModel" "asked" "[B", Cond.fieldLink RX12 55 "SpellTurnerModel" "word" "[B", Cond.fieldLink RX12 318 "SpellTurnerModel" "oldMany" "I", Cond.fieldLink RX12 312 "SpellTurnerModel" "words" "I", Cond.fieldLink RX12 122 "SpellTurnerModel" "olds" "[I", Cond.methodLink RX12 297 yX12_readWord, Cond.instanceMethod yX12_readWord, Cond.selects RX12 yX12_readWord yX12_readWord, Cond.initialized RX12, Cond.code yX12_readWord cX12_readWord 3 (some .boolean), Cond.fieldLink RX12 152 "SpellTurnerModel" "taped" "I", Cond.fieldLink RX12 7 "SpellTurnerModel" "tape" "[B", Cond.methodLink RX12 226 yX12_in, Cond.static yX12_in, Cond.code yX12_in cX12_in 3 (some .boolean), Cond.methodLink RX12 183 yX12_isSmall, Cond.static yX12_isSmall, Cond.code yX12_isSmall cX12_isSmall 1 (some .boolean), Cond.methodLink RX12 290 yX12_takeWord, Cond.instanceMethod yX12_takeWord, Cond.selects RX12 yX12_takeWord yX12_takeWord, Cond.code yX12_takeWord cX12_takeWord 5 none, Cond.methodLink RX12 300 yX12_isStage]
def wsX12_back_r2 : List Cond := [Cond.instanceMethod yX12_isStage, Cond.selects RX12 yX12_isStage yX12_isStage, Cond.code yX12_isStage cX12_isStage 2 (some .boolean), Cond.fieldLink RX12 222 "SpellTurnerModel" "reforms" "I", Cond.methodLink RX12 315 yX12_make, Cond.instanceMethod yX12_make, Cond.selects RX12 yX12_make yX12_make, Cond.code yX12_make cX12_make 6 none, Cond.fieldLink RX12 237 "SpellTurnerModel" "isMade" "Z", Cond.fieldLink RX12 106 "SpellTurnerModel" "bookText" "[B", Cond.fieldLink RX12 109 "SpellTurnerModel" "bookSize" "[I", Cond.fieldLink RX12 119 "SpellTurnerModel" "formMany" "[I", Cond.fieldLink RX12 287 "SpellTurnerModel" "nows" "I", Cond.fieldLink RX12 116 "SpellTurnerModel" "formSize" "[I", Cond.fieldLink RX12 85 "SpellTurnerModel" "nowSize" "[I", Cond.fieldLink RX12 113 "SpellTurnerModel" "formText" "[B", Cond.fieldLink RX12 82 "SpellTurnerModel" "now" "[B", Cond.methodLink RX12 303 yX12_through, Cond.instanceMethod yX12_through, Cond.selects RX12 yX12_through yX12_through, Cond.code yX12_through cX12_through 9 none, Cond.fieldLink RX12 270 "SpellTurnerModel" "mades" "I", Cond.fieldLink RX12 88 "SpellTurnerModel" "next" "[B", Cond.fieldLink RX12 91 "SpellTurnerModel" "nextSize" "[I"]
def wsX12_back_r3 : List Cond := [Cond.fieldLink RX12 76 "SpellTurnerModel" "made" "[B", Cond.fieldLink RX12 79 "SpellTurnerModel" "madeSize" "[I", Cond.methodLink RX12 294 yX12_turnBy, Cond.instanceMethod yX12_turnBy, Cond.selects RX12 yX12_turnBy yX12_turnBy, Cond.code yX12_turnBy cX12_turnBy 6 none, Cond.fieldLink RX12 241 "SpellTurnerModel" "wayMany" "I", Cond.fieldLink RX12 52 "SpellTurnerModel" "listSize" "[I", Cond.fieldLink RX12 49 "SpellTurnerModel" "listText" "[B", Cond.methodLink RX12 277 yX12_listedAs, Cond.instanceMethod yX12_listedAs, Cond.selects RX12 yX12_listedAs yX12_listedAs, Cond.code yX12_listedAs cX12_listedAs 3 (some .int), Cond.fieldLink RX12 27 "SpellTurnerModel" "listed" "[I", Cond.methodLink RX12 273 yX12_sameBytes, Cond.static yX12_sameBytes, Cond.code yX12_sameBytes cX12_sameBytes 7 (some .boolean), Cond.methodLink RX12 280 yX12_makeWays, Cond.instanceMethod yX12_makeWays, Cond.selects RX12 yX12_makeWays yX12_makeWays, Cond.code yX12_makeWays cX12_makeWays 4 none, Cond.fieldLink RX12 67 "SpellTurnerModel" "canEnd" "[Z", Cond.methodLink RX12 247 yX12_isWordPart, Cond.instanceMethod yX12_isWordPart]
def wsX12_back_r4 : List Cond := [Cond.selects RX12 yX12_isWordPart yX12_isWordPart, Cond.code yX12_isWordPart cX12_isWordPart 7 (some .boolean), Cond.fieldLink RX12 24 "SpellTurnerModel" "parts" "[I", Cond.fieldLink RX12 46 "SpellTurnerModel" "partSize" "[I", Cond.fieldLink RX12 43 "SpellTurnerModel" "partText" "[B", Cond.methodLink RX12 250 yX12_part, Cond.instanceMethod yX12_part, Cond.selects RX12 yX12_part yX12_part, Cond.code yX12_part cX12_part 5 none, Cond.fieldLink RX12 61 "SpellTurnerModel" "ways" "[I", Cond.fieldLink RX12 58 "SpellTurnerModel" "lengths" "[I", Cond.fieldLink RX12 64 "SpellTurnerModel" "wayParts" "[I", Cond.methodLink RX12 283 yX12_makeForm, Cond.instanceMethod yX12_makeForm, Cond.selects RX12 yX12_makeForm yX12_makeForm, Cond.code yX12_makeForm cX12_makeForm 10 none, Cond.fieldLink RX12 70 "SpellTurnerModel" "part" "[B", Cond.fieldLink RX12 253 "SpellTurnerModel" "partLetters" "I", Cond.fieldLink RX12 21 "SpellTurnerModel" "laws" "[I", Cond.methodLink RX12 266 yX12_lawThrough, Cond.instanceMethod yX12_lawThrough, Cond.selects RX12 yX12_lawThrough yX12_lawThrough, Cond.code yX12_lawThrough cX12_lawThrough 8 none, Cond.fieldLink RX12 33 "SpellTurnerModel" "lawSize" "[I"]
def wsX12_back_r5 : List Cond := [Cond.fieldLink RX12 36 "SpellTurnerModel" "atStart" "[Z", Cond.fieldLink RX12 40 "SpellTurnerModel" "atEnd" "[Z", Cond.fieldLink RX12 73 "SpellTurnerModel" "written" "[B", Cond.fieldLink RX12 30 "SpellTurnerModel" "lawText" "[B", Cond.fieldLink RX12 260 "SpellTurnerModel" "isUsed" "Z", Cond.fieldLink RX12 263 "SpellTurnerModel" "lawAsked" "I", Cond.methodLink RX12 256 yX12_stands, Cond.instanceMethod yX12_stands, Cond.selects RX12 yX12_stands yX12_stands, Cond.code yX12_stands cX12_stands 6 (some .boolean), Cond.methodLink RX12 321 yX12_hasForm, Cond.instanceMethod yX12_hasForm, Cond.selects RX12 yX12_hasForm yX12_hasForm, Cond.code yX12_hasForm cX12_hasForm 7 (some .boolean)]
def wsX12_back : List Cond := .code yX12_back cX12_back 4 (some .int) :: ((wsX12_back_r1 ++ (wsX12_back_r2 ++ (wsX12_back_r3 ++ (wsX12_back_r4 ++ wsX12_back_r5)))) ++ wsX120)
def wsX12_old : List Cond := .code yX12_old cX12_old 2 (some .int) :: ([.fieldLink RX12 318 "SpellTurnerModel" "oldMany" "I", .fieldLink RX12 122 "SpellTurnerModel" "olds" "[I", .methodLink RX12 226 yX12_in, .static yX12_in, .initialized RX12, .code yX12_in cX12_in 3 (some .boolean)] ++ wsX120)
def wsX12_collide : List Cond := .code yX12_collide cX12_collide 5 (some .boolean) :: ([.fieldLink RX12 119 "SpellTurnerModel" "formMany" "[I", .fieldLink RX12 113 "SpellTurnerModel" "formText" "[B", .fieldLink RX12 116 "SpellTurnerModel" "formSize" "[I", .methodLink RX12 321 yX12_hasForm, .instanceMethod yX12_hasForm, .selects RX12 yX12_hasForm yX12_hasForm, .initialized RX12, .code yX12_hasForm cX12_hasForm 7 (some .boolean), .methodLink RX12 273 yX12_sameBytes, .static yX12_sameBytes, .code yX12_sameBytes cX12_sameBytes 7 (some .boolean)] ++ wsX120)
def wsX12_collisions_r1 : List Cond := [Cond.fieldLink RX12 325 "SpellTurnerModel" "pairMany" "I", Cond.fieldLink RX12 312 "SpellTurnerModel" "words" "I", Cond.fieldLink RX12 128 "SpellTurnerModel" "pairs" "[I", Cond.methodLink RX12 300 yX12_isStage, Cond.instanceMethod yX12_isStage, Cond.selects RX12 yX12_isStage yX12_isStage, Cond.initialized RX12, Cond.code yX12_isStage cX12_isStage 2 (some .boolean), Cond.fieldLink RX12 222 "SpellTurnerModel" "reforms" "I", Cond.methodLink RX12 226 yX12_in, Cond.static yX12_in, Cond.code yX12_in cX12_in 3 (some .boolean), Cond.methodLink RX12 315 yX12_make, Cond.instanceMethod yX12_make, Cond.selects RX12 yX12_make yX12_make, Cond.code yX12_make cX12_make 6 none, Cond.fieldLink RX12 237 "SpellTurnerModel" "isMade" "Z", Cond.fieldLink RX12 106 "SpellTurnerModel" "bookText" "[B", Cond.fieldLink RX12 109 "SpellTurnerModel" "bookSize" "[I", Cond.fieldLink RX12 119 "SpellTurnerModel" "formMany" "[I", Cond.fieldLink RX12 287 "SpellTurnerModel" "nows" "I", Cond.fieldLink RX12 116 "SpellTurnerModel" "formSize" "[I", Cond.fieldLink RX12 85 "SpellTurnerModel" "nowSize" "[I", Cond.fieldLink RX12 113 "SpellTurnerModel" "formText" "[B"]
def wsX12_collisions_r2 : List Cond := [Cond.fieldLink RX12 82 "SpellTurnerModel" "now" "[B", Cond.methodLink RX12 290 yX12_takeWord, Cond.instanceMethod yX12_takeWord, Cond.selects RX12 yX12_takeWord yX12_takeWord, Cond.code yX12_takeWord cX12_takeWord 5 none, Cond.fieldLink RX12 55 "SpellTurnerModel" "word" "[B", Cond.fieldLink RX12 244 "SpellTurnerModel" "letters" "I", Cond.methodLink RX12 303 yX12_through, Cond.instanceMethod yX12_through, Cond.selects RX12 yX12_through yX12_through, Cond.code yX12_through cX12_through 9 none, Cond.fieldLink RX12 270 "SpellTurnerModel" "mades" "I", Cond.fieldLink RX12 88 "SpellTurnerModel" "next" "[B", Cond.fieldLink RX12 91 "SpellTurnerModel" "nextSize" "[I", Cond.fieldLink RX12 76 "SpellTurnerModel" "made" "[B", Cond.fieldLink RX12 79 "SpellTurnerModel" "madeSize" "[I", Cond.methodLink RX12 294 yX12_turnBy, Cond.instanceMethod yX12_turnBy, Cond.selects RX12 yX12_turnBy yX12_turnBy, Cond.code yX12_turnBy cX12_turnBy 6 none, Cond.fieldLink RX12 241 "SpellTurnerModel" "wayMany" "I", Cond.fieldLink RX12 52 "SpellTurnerModel" "listSize" "[I", Cond.fieldLink RX12 49 "SpellTurnerModel" "listText" "[B", Cond.methodLink RX12 277 yX12_listedAs]
def wsX12_collisions_r3 : List Cond := [Cond.instanceMethod yX12_listedAs, Cond.selects RX12 yX12_listedAs yX12_listedAs, Cond.code yX12_listedAs cX12_listedAs 3 (some .int), Cond.fieldLink RX12 27 "SpellTurnerModel" "listed" "[I", Cond.methodLink RX12 273 yX12_sameBytes, Cond.static yX12_sameBytes, Cond.code yX12_sameBytes cX12_sameBytes 7 (some .boolean), Cond.methodLink RX12 280 yX12_makeWays, Cond.instanceMethod yX12_makeWays, Cond.selects RX12 yX12_makeWays yX12_makeWays, Cond.code yX12_makeWays cX12_makeWays 4 none, Cond.fieldLink RX12 67 "SpellTurnerModel" "canEnd" "[Z", Cond.methodLink RX12 247 yX12_isWordPart, Cond.instanceMethod yX12_isWordPart, Cond.selects RX12 yX12_isWordPart yX12_isWordPart, Cond.code yX12_isWordPart cX12_isWordPart 7 (some .boolean), Cond.fieldLink RX12 24 "SpellTurnerModel" "parts" "[I", Cond.fieldLink RX12 46 "SpellTurnerModel" "partSize" "[I", Cond.fieldLink RX12 43 "SpellTurnerModel" "partText" "[B", Cond.methodLink RX12 250 yX12_part, Cond.instanceMethod yX12_part, Cond.selects RX12 yX12_part yX12_part, Cond.code yX12_part cX12_part 5 none, Cond.fieldLink RX12 61 "SpellTurnerModel" "ways" "[I"]
def wsX12_collisions_r4 : List Cond := [Cond.fieldLink RX12 58 "SpellTurnerModel" "lengths" "[I", Cond.fieldLink RX12 64 "SpellTurnerModel" "wayParts" "[I", Cond.methodLink RX12 283 yX12_makeForm, Cond.instanceMethod yX12_makeForm, Cond.selects RX12 yX12_makeForm yX12_makeForm, Cond.code yX12_makeForm cX12_makeForm 10 none, Cond.fieldLink RX12 70 "SpellTurnerModel" "part" "[B", Cond.fieldLink RX12 253 "SpellTurnerModel" "partLetters" "I", Cond.fieldLink RX12 21 "SpellTurnerModel" "laws" "[I", Cond.methodLink RX12 266 yX12_lawThrough, Cond.instanceMethod yX12_lawThrough, Cond.selects RX12 yX12_lawThrough yX12_lawThrough, Cond.code yX12_lawThrough cX12_lawThrough 8 none, Cond.fieldLink RX12 33 "SpellTurnerModel" "lawSize" "[I", Cond.fieldLink RX12 36 "SpellTurnerModel" "atStart" "[Z", Cond.fieldLink RX12 40 "SpellTurnerModel" "atEnd" "[Z", Cond.fieldLink RX12 73 "SpellTurnerModel" "written" "[B", Cond.fieldLink RX12 30 "SpellTurnerModel" "lawText" "[B", Cond.fieldLink RX12 260 "SpellTurnerModel" "isUsed" "Z", Cond.fieldLink RX12 263 "SpellTurnerModel" "lawAsked" "I", Cond.methodLink RX12 256 yX12_stands, Cond.instanceMethod yX12_stands, Cond.selects RX12 yX12_stands yX12_stands, Cond.code yX12_stands cX12_stands 6 (some .boolean)]
def wsX12_collisions_r5 : List Cond := [Cond.methodLink RX12 328 yX12_collide, Cond.instanceMethod yX12_collide, Cond.selects RX12 yX12_collide yX12_collide, Cond.code yX12_collide cX12_collide 5 (some .boolean), Cond.methodLink RX12 321 yX12_hasForm, Cond.instanceMethod yX12_hasForm, Cond.selects RX12 yX12_hasForm yX12_hasForm, Cond.code yX12_hasForm cX12_hasForm 7 (some .boolean)]
def wsX12_collisions : List Cond := .code yX12_collisions cX12_collisions 5 (some .int) :: ((wsX12_collisions_r1 ++ (wsX12_collisions_r2 ++ (wsX12_collisions_r3 ++ (wsX12_collisions_r4 ++ wsX12_collisions_r5)))) ++ wsX120)
def wsX12_collision : List Cond := .code yX12_collision cX12_collision 2 (some .int) :: ([.fieldLink RX12 325 "SpellTurnerModel" "pairMany" "I", .fieldLink RX12 128 "SpellTurnerModel" "pairs" "[I", .methodLink RX12 226 yX12_in, .static yX12_in, .initialized RX12, .code yX12_in cX12_in 3 (some .boolean)] ++ wsX120)
def wsX12_rhyme : List Cond := .code yX12_rhyme cX12_rhyme 6 (some .boolean) :: ([.methodLink RX12 273 yX12_sameBytes, .static yX12_sameBytes, .initialized RX12, .code yX12_sameBytes cX12_sameBytes 7 (some .boolean)])
def wsX12_rhymeAt : List Cond := .code yX12_rhymeAt cX12_rhymeAt 6 (some .boolean) :: ([.fieldLink RX12 119 "SpellTurnerModel" "formMany" "[I", .fieldLink RX12 113 "SpellTurnerModel" "formText" "[B", .fieldLink RX12 116 "SpellTurnerModel" "formSize" "[I", .methodLink RX12 331 yX12_rhyme, .static yX12_rhyme, .initialized RX12, .code yX12_rhyme cX12_rhyme 6 (some .boolean), .methodLink RX12 273 yX12_sameBytes, .static yX12_sameBytes, .code yX12_sameBytes cX12_sameBytes 7 (some .boolean)] ++ wsX120)
def wsX12_rhymes_r1 : List Cond := [Cond.fieldLink RX12 312 "SpellTurnerModel" "words" "I", Cond.fieldLink RX12 106 "SpellTurnerModel" "bookText" "[B", Cond.fieldLink RX12 109 "SpellTurnerModel" "bookSize" "[I", Cond.methodLink RX12 300 yX12_isStage, Cond.instanceMethod yX12_isStage, Cond.selects RX12 yX12_isStage yX12_isStage, Cond.initialized RX12, Cond.code yX12_isStage cX12_isStage 2 (some .boolean), Cond.fieldLink RX12 222 "SpellTurnerModel" "reforms" "I", Cond.methodLink RX12 226 yX12_in, Cond.static yX12_in, Cond.code yX12_in cX12_in 3 (some .boolean), Cond.methodLink RX12 315 yX12_make, Cond.instanceMethod yX12_make, Cond.selects RX12 yX12_make yX12_make, Cond.code yX12_make cX12_make 6 none, Cond.fieldLink RX12 237 "SpellTurnerModel" "isMade" "Z", Cond.fieldLink RX12 119 "SpellTurnerModel" "formMany" "[I", Cond.fieldLink RX12 287 "SpellTurnerModel" "nows" "I", Cond.fieldLink RX12 116 "SpellTurnerModel" "formSize" "[I", Cond.fieldLink RX12 85 "SpellTurnerModel" "nowSize" "[I", Cond.fieldLink RX12 113 "SpellTurnerModel" "formText" "[B", Cond.fieldLink RX12 82 "SpellTurnerModel" "now" "[B", Cond.methodLink RX12 290 yX12_takeWord]
def wsX12_rhymes_r2 : List Cond := [Cond.instanceMethod yX12_takeWord, Cond.selects RX12 yX12_takeWord yX12_takeWord, Cond.code yX12_takeWord cX12_takeWord 5 none, Cond.fieldLink RX12 55 "SpellTurnerModel" "word" "[B", Cond.fieldLink RX12 244 "SpellTurnerModel" "letters" "I", Cond.methodLink RX12 303 yX12_through, Cond.instanceMethod yX12_through, Cond.selects RX12 yX12_through yX12_through, Cond.code yX12_through cX12_through 9 none, Cond.fieldLink RX12 270 "SpellTurnerModel" "mades" "I", Cond.fieldLink RX12 88 "SpellTurnerModel" "next" "[B", Cond.fieldLink RX12 91 "SpellTurnerModel" "nextSize" "[I", Cond.fieldLink RX12 76 "SpellTurnerModel" "made" "[B", Cond.fieldLink RX12 79 "SpellTurnerModel" "madeSize" "[I", Cond.methodLink RX12 294 yX12_turnBy, Cond.instanceMethod yX12_turnBy, Cond.selects RX12 yX12_turnBy yX12_turnBy, Cond.code yX12_turnBy cX12_turnBy 6 none, Cond.fieldLink RX12 241 "SpellTurnerModel" "wayMany" "I", Cond.fieldLink RX12 52 "SpellTurnerModel" "listSize" "[I", Cond.fieldLink RX12 49 "SpellTurnerModel" "listText" "[B", Cond.methodLink RX12 277 yX12_listedAs, Cond.instanceMethod yX12_listedAs, Cond.selects RX12 yX12_listedAs yX12_listedAs]
def wsX12_rhymes_r3 : List Cond := [Cond.code yX12_listedAs cX12_listedAs 3 (some .int), Cond.fieldLink RX12 27 "SpellTurnerModel" "listed" "[I", Cond.methodLink RX12 273 yX12_sameBytes, Cond.static yX12_sameBytes, Cond.code yX12_sameBytes cX12_sameBytes 7 (some .boolean), Cond.methodLink RX12 280 yX12_makeWays, Cond.instanceMethod yX12_makeWays, Cond.selects RX12 yX12_makeWays yX12_makeWays, Cond.code yX12_makeWays cX12_makeWays 4 none, Cond.fieldLink RX12 67 "SpellTurnerModel" "canEnd" "[Z", Cond.methodLink RX12 247 yX12_isWordPart, Cond.instanceMethod yX12_isWordPart, Cond.selects RX12 yX12_isWordPart yX12_isWordPart, Cond.code yX12_isWordPart cX12_isWordPart 7 (some .boolean), Cond.fieldLink RX12 24 "SpellTurnerModel" "parts" "[I", Cond.fieldLink RX12 46 "SpellTurnerModel" "partSize" "[I", Cond.fieldLink RX12 43 "SpellTurnerModel" "partText" "[B", Cond.methodLink RX12 250 yX12_part, Cond.instanceMethod yX12_part, Cond.selects RX12 yX12_part yX12_part, Cond.code yX12_part cX12_part 5 none, Cond.fieldLink RX12 61 "SpellTurnerModel" "ways" "[I", Cond.fieldLink RX12 58 "SpellTurnerModel" "lengths" "[I", Cond.fieldLink RX12 64 "SpellTurnerModel" "wayParts" "[I"]
def wsX12_rhymes_r4 : List Cond := [Cond.methodLink RX12 283 yX12_makeForm, Cond.instanceMethod yX12_makeForm, Cond.selects RX12 yX12_makeForm yX12_makeForm, Cond.code yX12_makeForm cX12_makeForm 10 none, Cond.fieldLink RX12 70 "SpellTurnerModel" "part" "[B", Cond.fieldLink RX12 253 "SpellTurnerModel" "partLetters" "I", Cond.fieldLink RX12 21 "SpellTurnerModel" "laws" "[I", Cond.methodLink RX12 266 yX12_lawThrough, Cond.instanceMethod yX12_lawThrough, Cond.selects RX12 yX12_lawThrough yX12_lawThrough, Cond.code yX12_lawThrough cX12_lawThrough 8 none, Cond.fieldLink RX12 33 "SpellTurnerModel" "lawSize" "[I", Cond.fieldLink RX12 36 "SpellTurnerModel" "atStart" "[Z", Cond.fieldLink RX12 40 "SpellTurnerModel" "atEnd" "[Z", Cond.fieldLink RX12 73 "SpellTurnerModel" "written" "[B", Cond.fieldLink RX12 30 "SpellTurnerModel" "lawText" "[B", Cond.fieldLink RX12 260 "SpellTurnerModel" "isUsed" "Z", Cond.fieldLink RX12 263 "SpellTurnerModel" "lawAsked" "I", Cond.methodLink RX12 256 yX12_stands, Cond.instanceMethod yX12_stands, Cond.selects RX12 yX12_stands yX12_stands, Cond.code yX12_stands cX12_stands 6 (some .boolean), Cond.methodLink RX12 331 yX12_rhyme, Cond.static yX12_rhyme]
def wsX12_rhymes_r5 : List Cond := [Cond.code yX12_rhyme cX12_rhyme 6 (some .boolean), Cond.methodLink RX12 334 yX12_rhymeAt, Cond.instanceMethod yX12_rhymeAt, Cond.selects RX12 yX12_rhymeAt yX12_rhymeAt, Cond.code yX12_rhymeAt cX12_rhymeAt 6 (some .boolean)]
def wsX12_rhymes : List Cond := .code yX12_rhymes cX12_rhymes 5 (some .int) :: ((wsX12_rhymes_r1 ++ (wsX12_rhymes_r2 ++ (wsX12_rhymes_r3 ++ (wsX12_rhymes_r4 ++ wsX12_rhymes_r5)))) ++ wsX120)
def wsX12_tell_r1 : List Cond := [Cond.fieldLink RX12 312 "SpellTurnerModel" "words" "I", Cond.fieldLink RX12 119 "SpellTurnerModel" "formMany" "[I", Cond.fieldLink RX12 106 "SpellTurnerModel" "bookText" "[B", Cond.fieldLink RX12 109 "SpellTurnerModel" "bookSize" "[I", Cond.methodLink RX12 300 yX12_isStage, Cond.instanceMethod yX12_isStage, Cond.selects RX12 yX12_isStage yX12_isStage, Cond.initialized RX12, Cond.code yX12_isStage cX12_isStage 2 (some .boolean), Cond.fieldLink RX12 222 "SpellTurnerModel" "reforms" "I", Cond.methodLink RX12 226 yX12_in, Cond.static yX12_in, Cond.code yX12_in cX12_in 3 (some .boolean), Cond.methodLink RX12 315 yX12_make, Cond.instanceMethod yX12_make, Cond.selects RX12 yX12_make yX12_make, Cond.code yX12_make cX12_make 6 none, Cond.fieldLink RX12 237 "SpellTurnerModel" "isMade" "Z", Cond.fieldLink RX12 287 "SpellTurnerModel" "nows" "I", Cond.fieldLink RX12 116 "SpellTurnerModel" "formSize" "[I", Cond.fieldLink RX12 85 "SpellTurnerModel" "nowSize" "[I", Cond.fieldLink RX12 113 "SpellTurnerModel" "formText" "[B", Cond.fieldLink RX12 82 "SpellTurnerModel" "now" "[B", Cond.methodLink RX12 290 yX12_takeWord]
def wsX12_tell_r2 : List Cond := [Cond.instanceMethod yX12_takeWord, Cond.selects RX12 yX12_takeWord yX12_takeWord, Cond.code yX12_takeWord cX12_takeWord 5 none, Cond.fieldLink RX12 55 "SpellTurnerModel" "word" "[B", Cond.fieldLink RX12 244 "SpellTurnerModel" "letters" "I", Cond.methodLink RX12 303 yX12_through, Cond.instanceMethod yX12_through, Cond.selects RX12 yX12_through yX12_through, Cond.code yX12_through cX12_through 9 none, Cond.fieldLink RX12 270 "SpellTurnerModel" "mades" "I", Cond.fieldLink RX12 88 "SpellTurnerModel" "next" "[B", Cond.fieldLink RX12 91 "SpellTurnerModel" "nextSize" "[I", Cond.fieldLink RX12 76 "SpellTurnerModel" "made" "[B", Cond.fieldLink RX12 79 "SpellTurnerModel" "madeSize" "[I", Cond.methodLink RX12 294 yX12_turnBy, Cond.instanceMethod yX12_turnBy, Cond.selects RX12 yX12_turnBy yX12_turnBy, Cond.code yX12_turnBy cX12_turnBy 6 none, Cond.fieldLink RX12 241 "SpellTurnerModel" "wayMany" "I", Cond.fieldLink RX12 52 "SpellTurnerModel" "listSize" "[I", Cond.fieldLink RX12 49 "SpellTurnerModel" "listText" "[B", Cond.methodLink RX12 277 yX12_listedAs, Cond.instanceMethod yX12_listedAs, Cond.selects RX12 yX12_listedAs yX12_listedAs]
def wsX12_tell_r3 : List Cond := [Cond.code yX12_listedAs cX12_listedAs 3 (some .int), Cond.fieldLink RX12 27 "SpellTurnerModel" "listed" "[I", Cond.methodLink RX12 273 yX12_sameBytes, Cond.static yX12_sameBytes, Cond.code yX12_sameBytes cX12_sameBytes 7 (some .boolean), Cond.methodLink RX12 280 yX12_makeWays, Cond.instanceMethod yX12_makeWays, Cond.selects RX12 yX12_makeWays yX12_makeWays, Cond.code yX12_makeWays cX12_makeWays 4 none, Cond.fieldLink RX12 67 "SpellTurnerModel" "canEnd" "[Z", Cond.methodLink RX12 247 yX12_isWordPart, Cond.instanceMethod yX12_isWordPart, Cond.selects RX12 yX12_isWordPart yX12_isWordPart, Cond.code yX12_isWordPart cX12_isWordPart 7 (some .boolean), Cond.fieldLink RX12 24 "SpellTurnerModel" "parts" "[I", Cond.fieldLink RX12 46 "SpellTurnerModel" "partSize" "[I", Cond.fieldLink RX12 43 "SpellTurnerModel" "partText" "[B", Cond.methodLink RX12 250 yX12_part, Cond.instanceMethod yX12_part, Cond.selects RX12 yX12_part yX12_part, Cond.code yX12_part cX12_part 5 none, Cond.fieldLink RX12 61 "SpellTurnerModel" "ways" "[I", Cond.fieldLink RX12 58 "SpellTurnerModel" "lengths" "[I", Cond.fieldLink RX12 64 "SpellTurnerModel" "wayParts" "[I"]
def wsX12_tell_r4 : List Cond := [Cond.methodLink RX12 283 yX12_makeForm, Cond.instanceMethod yX12_makeForm, Cond.selects RX12 yX12_makeForm yX12_makeForm, Cond.code yX12_makeForm cX12_makeForm 10 none, Cond.fieldLink RX12 70 "SpellTurnerModel" "part" "[B", Cond.fieldLink RX12 253 "SpellTurnerModel" "partLetters" "I", Cond.fieldLink RX12 21 "SpellTurnerModel" "laws" "[I", Cond.methodLink RX12 266 yX12_lawThrough, Cond.instanceMethod yX12_lawThrough, Cond.selects RX12 yX12_lawThrough yX12_lawThrough, Cond.code yX12_lawThrough cX12_lawThrough 8 none, Cond.fieldLink RX12 33 "SpellTurnerModel" "lawSize" "[I", Cond.fieldLink RX12 36 "SpellTurnerModel" "atStart" "[Z", Cond.fieldLink RX12 40 "SpellTurnerModel" "atEnd" "[Z", Cond.fieldLink RX12 73 "SpellTurnerModel" "written" "[B", Cond.fieldLink RX12 30 "SpellTurnerModel" "lawText" "[B", Cond.fieldLink RX12 260 "SpellTurnerModel" "isUsed" "Z", Cond.fieldLink RX12 263 "SpellTurnerModel" "lawAsked" "I", Cond.methodLink RX12 256 yX12_stands, Cond.instanceMethod yX12_stands, Cond.selects RX12 yX12_stands yX12_stands, Cond.code yX12_stands cX12_stands 6 (some .boolean), Cond.methodLink RX12 321 yX12_hasForm, Cond.instanceMethod yX12_hasForm]
def wsX12_tell_r5 : List Cond := [Cond.selects RX12 yX12_hasForm yX12_hasForm, Cond.code yX12_hasForm cX12_hasForm 7 (some .boolean)]
def wsX12_tell : List Cond := .code yX12_tell cX12_tell 7 (some .int) :: ((wsX12_tell_r1 ++ (wsX12_tell_r2 ++ (wsX12_tell_r3 ++ (wsX12_tell_r4 ++ wsX12_tell_r5)))) ++ wsX120)
def wsX12_uses_r1 : List Cond := [Cond.fieldLink RX12 222 "SpellTurnerModel" "reforms" "I", Cond.fieldLink RX12 21 "SpellTurnerModel" "laws" "[I", Cond.fieldLink RX12 263 "SpellTurnerModel" "lawAsked" "I", Cond.fieldLink RX12 312 "SpellTurnerModel" "words" "I", Cond.fieldLink RX12 260 "SpellTurnerModel" "isUsed" "Z", Cond.fieldLink RX12 119 "SpellTurnerModel" "formMany" "[I", Cond.fieldLink RX12 113 "SpellTurnerModel" "formText" "[B", Cond.fieldLink RX12 116 "SpellTurnerModel" "formSize" "[I", Cond.methodLink RX12 226 yX12_in, Cond.static yX12_in, Cond.initialized RX12, Cond.code yX12_in cX12_in 3 (some .boolean), Cond.methodLink RX12 315 yX12_make, Cond.instanceMethod yX12_make, Cond.selects RX12 yX12_make yX12_make, Cond.code yX12_make cX12_make 6 none, Cond.fieldLink RX12 237 "SpellTurnerModel" "isMade" "Z", Cond.fieldLink RX12 106 "SpellTurnerModel" "bookText" "[B", Cond.fieldLink RX12 109 "SpellTurnerModel" "bookSize" "[I", Cond.fieldLink RX12 287 "SpellTurnerModel" "nows" "I", Cond.fieldLink RX12 85 "SpellTurnerModel" "nowSize" "[I", Cond.fieldLink RX12 82 "SpellTurnerModel" "now" "[B", Cond.methodLink RX12 290 yX12_takeWord, Cond.instanceMethod yX12_takeWord]
def wsX12_uses_r2 : List Cond := [Cond.selects RX12 yX12_takeWord yX12_takeWord, Cond.code yX12_takeWord cX12_takeWord 5 none, Cond.fieldLink RX12 55 "SpellTurnerModel" "word" "[B", Cond.fieldLink RX12 244 "SpellTurnerModel" "letters" "I", Cond.methodLink RX12 303 yX12_through, Cond.instanceMethod yX12_through, Cond.selects RX12 yX12_through yX12_through, Cond.code yX12_through cX12_through 9 none, Cond.fieldLink RX12 270 "SpellTurnerModel" "mades" "I", Cond.fieldLink RX12 88 "SpellTurnerModel" "next" "[B", Cond.fieldLink RX12 91 "SpellTurnerModel" "nextSize" "[I", Cond.fieldLink RX12 76 "SpellTurnerModel" "made" "[B", Cond.fieldLink RX12 79 "SpellTurnerModel" "madeSize" "[I", Cond.methodLink RX12 294 yX12_turnBy, Cond.instanceMethod yX12_turnBy, Cond.selects RX12 yX12_turnBy yX12_turnBy, Cond.code yX12_turnBy cX12_turnBy 6 none, Cond.fieldLink RX12 241 "SpellTurnerModel" "wayMany" "I", Cond.fieldLink RX12 52 "SpellTurnerModel" "listSize" "[I", Cond.fieldLink RX12 49 "SpellTurnerModel" "listText" "[B", Cond.methodLink RX12 277 yX12_listedAs, Cond.instanceMethod yX12_listedAs, Cond.selects RX12 yX12_listedAs yX12_listedAs, Cond.code yX12_listedAs cX12_listedAs 3 (some .int)]
def wsX12_uses_r3 : List Cond := [Cond.fieldLink RX12 27 "SpellTurnerModel" "listed" "[I", Cond.methodLink RX12 273 yX12_sameBytes, Cond.static yX12_sameBytes, Cond.code yX12_sameBytes cX12_sameBytes 7 (some .boolean), Cond.methodLink RX12 280 yX12_makeWays, Cond.instanceMethod yX12_makeWays, Cond.selects RX12 yX12_makeWays yX12_makeWays, Cond.code yX12_makeWays cX12_makeWays 4 none, Cond.fieldLink RX12 67 "SpellTurnerModel" "canEnd" "[Z", Cond.methodLink RX12 247 yX12_isWordPart, Cond.instanceMethod yX12_isWordPart, Cond.selects RX12 yX12_isWordPart yX12_isWordPart, Cond.code yX12_isWordPart cX12_isWordPart 7 (some .boolean), Cond.fieldLink RX12 24 "SpellTurnerModel" "parts" "[I", Cond.fieldLink RX12 46 "SpellTurnerModel" "partSize" "[I", Cond.fieldLink RX12 43 "SpellTurnerModel" "partText" "[B", Cond.methodLink RX12 250 yX12_part, Cond.instanceMethod yX12_part, Cond.selects RX12 yX12_part yX12_part, Cond.code yX12_part cX12_part 5 none, Cond.fieldLink RX12 61 "SpellTurnerModel" "ways" "[I", Cond.fieldLink RX12 58 "SpellTurnerModel" "lengths" "[I", Cond.fieldLink RX12 64 "SpellTurnerModel" "wayParts" "[I", Cond.methodLink RX12 283 yX12_makeForm]
def wsX12_uses_r4 : List Cond := [Cond.instanceMethod yX12_makeForm, Cond.selects RX12 yX12_makeForm yX12_makeForm, Cond.code yX12_makeForm cX12_makeForm 10 none, Cond.fieldLink RX12 70 "SpellTurnerModel" "part" "[B", Cond.fieldLink RX12 253 "SpellTurnerModel" "partLetters" "I", Cond.methodLink RX12 266 yX12_lawThrough, Cond.instanceMethod yX12_lawThrough, Cond.selects RX12 yX12_lawThrough yX12_lawThrough, Cond.code yX12_lawThrough cX12_lawThrough 8 none, Cond.fieldLink RX12 33 "SpellTurnerModel" "lawSize" "[I", Cond.fieldLink RX12 36 "SpellTurnerModel" "atStart" "[Z", Cond.fieldLink RX12 40 "SpellTurnerModel" "atEnd" "[Z", Cond.fieldLink RX12 73 "SpellTurnerModel" "written" "[B", Cond.fieldLink RX12 30 "SpellTurnerModel" "lawText" "[B", Cond.methodLink RX12 256 yX12_stands, Cond.instanceMethod yX12_stands, Cond.selects RX12 yX12_stands yX12_stands, Cond.code yX12_stands cX12_stands 6 (some .boolean)]
def wsX12_uses : List Cond := .code yX12_uses cX12_uses 6 (some .int) :: ((wsX12_uses_r1 ++ (wsX12_uses_r2 ++ (wsX12_uses_r3 ++ wsX12_uses_r4))) ++ wsX120)
def wsX12_isLetter : List Cond := .code yX12_isLetter cX12_isLetter 1 (some .boolean) :: ([.methodLink RX12 183 yX12_isSmall, .static yX12_isSmall, .initialized RX12, .code yX12_isSmall cX12_isSmall 1 (some .boolean)])
def wsX12_hasNought : List Cond := .code yX12_hasNought cX12_hasNought 3 (some .boolean) :: ([.fieldLink RX12 7 "SpellTurnerModel" "tape" "[B"] ++ wsX120)
def wsX12_write1 : List Cond := .code yX12_write1 cX12_write1 5 (some .boolean) :: ([.fieldLink RX12 337 "SpellTurnerModel" "drafted" "I", .fieldLink RX12 134 "SpellTurnerModel" "draft" "[B"] ++ wsX120)
def wsX12_isName : List Cond := .code yX12_isName cX12_isName 4 (some .boolean) :: ([.fieldLink RX12 7 "SpellTurnerModel" "tape" "[B", .methodLink RX12 183 yX12_isSmall, .static yX12_isSmall, .initialized RX12, .code yX12_isSmall cX12_isSmall 1 (some .boolean)] ++ wsX120)
def wsX12_writeWord_r1 : List Cond := [Cond.fieldLink RX12 140 "SpellTurnerModel" "newCounts" "[I", Cond.fieldLink RX12 7 "SpellTurnerModel" "tape" "[B", Cond.fieldLink RX12 287 "SpellTurnerModel" "nows" "I", Cond.fieldLink RX12 82 "SpellTurnerModel" "now" "[B", Cond.fieldLink RX12 85 "SpellTurnerModel" "nowSize" "[I", Cond.methodLink RX12 340 yX12_isName, Cond.instanceMethod yX12_isName, Cond.selects RX12 yX12_isName yX12_isName, Cond.initialized RX12, Cond.code yX12_isName cX12_isName 4 (some .boolean), Cond.methodLink RX12 183 yX12_isSmall, Cond.static yX12_isSmall, Cond.code yX12_isSmall cX12_isSmall 1 (some .boolean), Cond.methodLink RX12 344 yX12_write1, Cond.instanceMethod yX12_write1, Cond.selects RX12 yX12_write1 yX12_write1, Cond.code yX12_write1 cX12_write1 5 (some .boolean), Cond.fieldLink RX12 337 "SpellTurnerModel" "drafted" "I", Cond.fieldLink RX12 134 "SpellTurnerModel" "draft" "[B", Cond.methodLink RX12 290 yX12_takeWord, Cond.instanceMethod yX12_takeWord, Cond.selects RX12 yX12_takeWord yX12_takeWord, Cond.code yX12_takeWord cX12_takeWord 5 none, Cond.fieldLink RX12 55 "SpellTurnerModel" "word" "[B"]
def wsX12_writeWord_r2 : List Cond := [Cond.fieldLink RX12 244 "SpellTurnerModel" "letters" "I", Cond.methodLink RX12 303 yX12_through, Cond.instanceMethod yX12_through, Cond.selects RX12 yX12_through yX12_through, Cond.code yX12_through cX12_through 9 none, Cond.fieldLink RX12 270 "SpellTurnerModel" "mades" "I", Cond.fieldLink RX12 88 "SpellTurnerModel" "next" "[B", Cond.fieldLink RX12 91 "SpellTurnerModel" "nextSize" "[I", Cond.fieldLink RX12 76 "SpellTurnerModel" "made" "[B", Cond.fieldLink RX12 79 "SpellTurnerModel" "madeSize" "[I", Cond.methodLink RX12 294 yX12_turnBy, Cond.instanceMethod yX12_turnBy, Cond.selects RX12 yX12_turnBy yX12_turnBy, Cond.code yX12_turnBy cX12_turnBy 6 none, Cond.fieldLink RX12 241 "SpellTurnerModel" "wayMany" "I", Cond.fieldLink RX12 52 "SpellTurnerModel" "listSize" "[I", Cond.fieldLink RX12 49 "SpellTurnerModel" "listText" "[B", Cond.methodLink RX12 277 yX12_listedAs, Cond.instanceMethod yX12_listedAs, Cond.selects RX12 yX12_listedAs yX12_listedAs, Cond.code yX12_listedAs cX12_listedAs 3 (some .int), Cond.fieldLink RX12 27 "SpellTurnerModel" "listed" "[I", Cond.methodLink RX12 273 yX12_sameBytes, Cond.static yX12_sameBytes]
def wsX12_writeWord_r3 : List Cond := [Cond.code yX12_sameBytes cX12_sameBytes 7 (some .boolean), Cond.methodLink RX12 280 yX12_makeWays, Cond.instanceMethod yX12_makeWays, Cond.selects RX12 yX12_makeWays yX12_makeWays, Cond.code yX12_makeWays cX12_makeWays 4 none, Cond.fieldLink RX12 67 "SpellTurnerModel" "canEnd" "[Z", Cond.methodLink RX12 247 yX12_isWordPart, Cond.instanceMethod yX12_isWordPart, Cond.selects RX12 yX12_isWordPart yX12_isWordPart, Cond.code yX12_isWordPart cX12_isWordPart 7 (some .boolean), Cond.fieldLink RX12 24 "SpellTurnerModel" "parts" "[I", Cond.fieldLink RX12 46 "SpellTurnerModel" "partSize" "[I", Cond.fieldLink RX12 43 "SpellTurnerModel" "partText" "[B", Cond.methodLink RX12 250 yX12_part, Cond.instanceMethod yX12_part, Cond.selects RX12 yX12_part yX12_part, Cond.code yX12_part cX12_part 5 none, Cond.fieldLink RX12 61 "SpellTurnerModel" "ways" "[I", Cond.fieldLink RX12 58 "SpellTurnerModel" "lengths" "[I", Cond.fieldLink RX12 64 "SpellTurnerModel" "wayParts" "[I", Cond.methodLink RX12 283 yX12_makeForm, Cond.instanceMethod yX12_makeForm, Cond.selects RX12 yX12_makeForm yX12_makeForm, Cond.code yX12_makeForm cX12_makeForm 10 none]
def wsX12_writeWord_r4 : List Cond := [Cond.fieldLink RX12 70 "SpellTurnerModel" "part" "[B", Cond.fieldLink RX12 253 "SpellTurnerModel" "partLetters" "I", Cond.fieldLink RX12 21 "SpellTurnerModel" "laws" "[I", Cond.methodLink RX12 266 yX12_lawThrough, Cond.instanceMethod yX12_lawThrough, Cond.selects RX12 yX12_lawThrough yX12_lawThrough, Cond.code yX12_lawThrough cX12_lawThrough 8 none, Cond.fieldLink RX12 33 "SpellTurnerModel" "lawSize" "[I", Cond.fieldLink RX12 36 "SpellTurnerModel" "atStart" "[Z", Cond.fieldLink RX12 40 "SpellTurnerModel" "atEnd" "[Z", Cond.fieldLink RX12 73 "SpellTurnerModel" "written" "[B", Cond.fieldLink RX12 30 "SpellTurnerModel" "lawText" "[B", Cond.fieldLink RX12 260 "SpellTurnerModel" "isUsed" "Z", Cond.fieldLink RX12 263 "SpellTurnerModel" "lawAsked" "I", Cond.methodLink RX12 256 yX12_stands, Cond.instanceMethod yX12_stands, Cond.selects RX12 yX12_stands yX12_stands, Cond.code yX12_stands cX12_stands 6 (some .boolean)]
def wsX12_writeWord : List Cond := .code yX12_writeWord cX12_writeWord 5 (some .boolean) :: ((wsX12_writeWord_r1 ++ (wsX12_writeWord_r2 ++ (wsX12_writeWord_r3 ++ wsX12_writeWord_r4))) ++ wsX120)
def wsX12_quoted : List Cond := .code yX12_quoted cX12_quoted 4 (some .int) :: ([.fieldLink RX12 7 "SpellTurnerModel" "tape" "[B"] ++ wsX120)
def wsX12_write_r1 : List Cond := [Cond.fieldLink RX12 152 "SpellTurnerModel" "taped" "I", Cond.fieldLink RX12 337 "SpellTurnerModel" "drafted" "I", Cond.fieldLink RX12 140 "SpellTurnerModel" "newCounts" "[I", Cond.fieldLink RX12 7 "SpellTurnerModel" "tape" "[B", Cond.fieldLink RX12 361 "SpellTurnerModel" "texted" "I", Cond.fieldLink RX12 364 "SpellTurnerModel" "hasText" "Z", Cond.fieldLink RX12 131 "SpellTurnerModel" "text" "[B", Cond.fieldLink RX12 134 "SpellTurnerModel" "draft" "[B", Cond.fieldLink RX12 137 "SpellTurnerModel" "counts" "[I", Cond.methodLink RX12 300 yX12_isStage, Cond.instanceMethod yX12_isStage, Cond.selects RX12 yX12_isStage yX12_isStage, Cond.initialized RX12, Cond.code yX12_isStage cX12_isStage 2 (some .boolean), Cond.fieldLink RX12 222 "SpellTurnerModel" "reforms" "I", Cond.methodLink RX12 226 yX12_in, Cond.static yX12_in, Cond.code yX12_in cX12_in 3 (some .boolean), Cond.methodLink RX12 348 yX12_hasNought, Cond.instanceMethod yX12_hasNought, Cond.selects RX12 yX12_hasNought yX12_hasNought, Cond.code yX12_hasNought cX12_hasNought 3 (some .boolean), Cond.methodLink RX12 351 yX12_quoted, Cond.instanceMethod yX12_quoted]
def wsX12_write_r2 : List Cond := [Cond.selects RX12 yX12_quoted yX12_quoted, Cond.code yX12_quoted cX12_quoted 4 (some .int), Cond.methodLink RX12 344 yX12_write1, Cond.instanceMethod yX12_write1, Cond.selects RX12 yX12_write1 yX12_write1, Cond.code yX12_write1 cX12_write1 5 (some .boolean), Cond.methodLink RX12 354 yX12_isLetter, Cond.static yX12_isLetter, Cond.code yX12_isLetter cX12_isLetter 1 (some .boolean), Cond.methodLink RX12 183 yX12_isSmall, Cond.static yX12_isSmall, Cond.code yX12_isSmall cX12_isSmall 1 (some .boolean), Cond.methodLink RX12 357 yX12_writeWord, Cond.instanceMethod yX12_writeWord, Cond.selects RX12 yX12_writeWord yX12_writeWord, Cond.code yX12_writeWord cX12_writeWord 5 (some .boolean), Cond.fieldLink RX12 287 "SpellTurnerModel" "nows" "I", Cond.fieldLink RX12 82 "SpellTurnerModel" "now" "[B", Cond.fieldLink RX12 85 "SpellTurnerModel" "nowSize" "[I", Cond.methodLink RX12 340 yX12_isName, Cond.instanceMethod yX12_isName, Cond.selects RX12 yX12_isName yX12_isName, Cond.code yX12_isName cX12_isName 4 (some .boolean), Cond.methodLink RX12 290 yX12_takeWord]
def wsX12_write_r3 : List Cond := [Cond.instanceMethod yX12_takeWord, Cond.selects RX12 yX12_takeWord yX12_takeWord, Cond.code yX12_takeWord cX12_takeWord 5 none, Cond.fieldLink RX12 55 "SpellTurnerModel" "word" "[B", Cond.fieldLink RX12 244 "SpellTurnerModel" "letters" "I", Cond.methodLink RX12 303 yX12_through, Cond.instanceMethod yX12_through, Cond.selects RX12 yX12_through yX12_through, Cond.code yX12_through cX12_through 9 none, Cond.fieldLink RX12 270 "SpellTurnerModel" "mades" "I", Cond.fieldLink RX12 88 "SpellTurnerModel" "next" "[B", Cond.fieldLink RX12 91 "SpellTurnerModel" "nextSize" "[I", Cond.fieldLink RX12 76 "SpellTurnerModel" "made" "[B", Cond.fieldLink RX12 79 "SpellTurnerModel" "madeSize" "[I", Cond.methodLink RX12 294 yX12_turnBy, Cond.instanceMethod yX12_turnBy, Cond.selects RX12 yX12_turnBy yX12_turnBy, Cond.code yX12_turnBy cX12_turnBy 6 none, Cond.fieldLink RX12 241 "SpellTurnerModel" "wayMany" "I", Cond.fieldLink RX12 52 "SpellTurnerModel" "listSize" "[I", Cond.fieldLink RX12 49 "SpellTurnerModel" "listText" "[B", Cond.methodLink RX12 277 yX12_listedAs, Cond.instanceMethod yX12_listedAs, Cond.selects RX12 yX12_listedAs yX12_listedAs]
def wsX12_write_r4 : List Cond := [Cond.code yX12_listedAs cX12_listedAs 3 (some .int), Cond.fieldLink RX12 27 "SpellTurnerModel" "listed" "[I", Cond.methodLink RX12 273 yX12_sameBytes, Cond.static yX12_sameBytes, Cond.code yX12_sameBytes cX12_sameBytes 7 (some .boolean), Cond.methodLink RX12 280 yX12_makeWays, Cond.instanceMethod yX12_makeWays, Cond.selects RX12 yX12_makeWays yX12_makeWays, Cond.code yX12_makeWays cX12_makeWays 4 none, Cond.fieldLink RX12 67 "SpellTurnerModel" "canEnd" "[Z", Cond.methodLink RX12 247 yX12_isWordPart, Cond.instanceMethod yX12_isWordPart, Cond.selects RX12 yX12_isWordPart yX12_isWordPart, Cond.code yX12_isWordPart cX12_isWordPart 7 (some .boolean), Cond.fieldLink RX12 24 "SpellTurnerModel" "parts" "[I", Cond.fieldLink RX12 46 "SpellTurnerModel" "partSize" "[I", Cond.fieldLink RX12 43 "SpellTurnerModel" "partText" "[B", Cond.methodLink RX12 250 yX12_part, Cond.instanceMethod yX12_part, Cond.selects RX12 yX12_part yX12_part, Cond.code yX12_part cX12_part 5 none, Cond.fieldLink RX12 61 "SpellTurnerModel" "ways" "[I", Cond.fieldLink RX12 58 "SpellTurnerModel" "lengths" "[I", Cond.fieldLink RX12 64 "SpellTurnerModel" "wayParts" "[I"]
def wsX12_write_r5 : List Cond := [Cond.methodLink RX12 283 yX12_makeForm, Cond.instanceMethod yX12_makeForm, Cond.selects RX12 yX12_makeForm yX12_makeForm, Cond.code yX12_makeForm cX12_makeForm 10 none, Cond.fieldLink RX12 70 "SpellTurnerModel" "part" "[B", Cond.fieldLink RX12 253 "SpellTurnerModel" "partLetters" "I", Cond.fieldLink RX12 21 "SpellTurnerModel" "laws" "[I", Cond.methodLink RX12 266 yX12_lawThrough, Cond.instanceMethod yX12_lawThrough, Cond.selects RX12 yX12_lawThrough yX12_lawThrough, Cond.code yX12_lawThrough cX12_lawThrough 8 none, Cond.fieldLink RX12 33 "SpellTurnerModel" "lawSize" "[I", Cond.fieldLink RX12 36 "SpellTurnerModel" "atStart" "[Z", Cond.fieldLink RX12 40 "SpellTurnerModel" "atEnd" "[Z", Cond.fieldLink RX12 73 "SpellTurnerModel" "written" "[B", Cond.fieldLink RX12 30 "SpellTurnerModel" "lawText" "[B", Cond.fieldLink RX12 260 "SpellTurnerModel" "isUsed" "Z", Cond.fieldLink RX12 263 "SpellTurnerModel" "lawAsked" "I", Cond.methodLink RX12 256 yX12_stands, Cond.instanceMethod yX12_stands, Cond.selects RX12 yX12_stands yX12_stands, Cond.code yX12_stands cX12_stands 6 (some .boolean)]
def wsX12_write : List Cond := .code yX12_write cX12_write 7 (some .int) :: ((wsX12_write_r1 ++ (wsX12_write_r2 ++ (wsX12_write_r3 ++ (wsX12_write_r4 ++ wsX12_write_r5)))) ++ wsX120)
def wsX12_written : List Cond := .code yX12_written cX12_written 2 (some .int) :: ([.fieldLink RX12 361 "SpellTurnerModel" "texted" "I", .fieldLink RX12 131 "SpellTurnerModel" "text" "[B", .methodLink RX12 226 yX12_in, .static yX12_in, .initialized RX12, .code yX12_in cX12_in 3 (some .boolean)] ++ wsX120)
def wsX12_counted : List Cond := .code yX12_counted cX12_counted 2 (some .int) :: ([.fieldLink RX12 364 "SpellTurnerModel" "hasText" "Z", .fieldLink RX12 137 "SpellTurnerModel" "counts" "[I", .methodLink RX12 226 yX12_in, .static yX12_in, .initialized RX12, .code yX12_in cX12_in 3 (some .boolean)] ++ wsX120)
def wsX12_isKnown : List Cond := .code yX12_isKnown cX12_isKnown 5 (some .boolean) :: ([.fieldLink RX12 312 "SpellTurnerModel" "words" "I", .fieldLink RX12 7 "SpellTurnerModel" "tape" "[B", .methodLink RX12 321 yX12_hasForm, .instanceMethod yX12_hasForm, .selects RX12 yX12_hasForm yX12_hasForm, .initialized RX12, .code yX12_hasForm cX12_hasForm 7 (some .boolean), .fieldLink RX12 119 "SpellTurnerModel" "formMany" "[I", .fieldLink RX12 113 "SpellTurnerModel" "formText" "[B", .fieldLink RX12 116 "SpellTurnerModel" "formSize" "[I", .methodLink RX12 273 yX12_sameBytes, .static yX12_sameBytes, .code yX12_sameBytes cX12_sameBytes 7 (some .boolean)] ++ wsX120)
def wsX12_onward : List Cond := .code yX12_onward cX12_onward 7 (some .int) :: ([.constant RX12 379 (2147483647), .fieldLink RX12 222 "SpellTurnerModel" "reforms" "I", .fieldLink RX12 146 "SpellTurnerModel" "sum" "[I"] ++ wsX120)
def wsX12_mixed_r1 : List Cond := [Cond.fieldLink RX12 152 "SpellTurnerModel" "taped" "I", Cond.fieldLink RX12 7 "SpellTurnerModel" "tape" "[B", Cond.fieldLink RX12 143 "SpellTurnerModel" "cost" "[I", Cond.fieldLink RX12 222 "SpellTurnerModel" "reforms" "I", Cond.fieldLink RX12 146 "SpellTurnerModel" "sum" "[I", Cond.fieldLink RX12 374 "SpellTurnerModel" "lines" "I", Cond.fieldLink RX12 149 "SpellTurnerModel" "stageOf" "[I", Cond.methodLink RX12 226 yX12_in, Cond.static yX12_in, Cond.initialized RX12, Cond.code yX12_in cX12_in 3 (some .boolean), Cond.methodLink RX12 348 yX12_hasNought, Cond.instanceMethod yX12_hasNought, Cond.selects RX12 yX12_hasNought yX12_hasNought, Cond.code yX12_hasNought cX12_hasNought 3 (some .boolean), Cond.methodLink RX12 315 yX12_make, Cond.instanceMethod yX12_make, Cond.selects RX12 yX12_make yX12_make, Cond.code yX12_make cX12_make 6 none, Cond.fieldLink RX12 237 "SpellTurnerModel" "isMade" "Z", Cond.fieldLink RX12 312 "SpellTurnerModel" "words" "I", Cond.fieldLink RX12 106 "SpellTurnerModel" "bookText" "[B", Cond.fieldLink RX12 109 "SpellTurnerModel" "bookSize" "[I", Cond.fieldLink RX12 119 "SpellTurnerModel" "formMany" "[I"]
def wsX12_mixed_r2 : List Cond := [Cond.fieldLink RX12 287 "SpellTurnerModel" "nows" "I", Cond.fieldLink RX12 116 "SpellTurnerModel" "formSize" "[I", Cond.fieldLink RX12 85 "SpellTurnerModel" "nowSize" "[I", Cond.fieldLink RX12 113 "SpellTurnerModel" "formText" "[B", Cond.fieldLink RX12 82 "SpellTurnerModel" "now" "[B", Cond.methodLink RX12 290 yX12_takeWord, Cond.instanceMethod yX12_takeWord, Cond.selects RX12 yX12_takeWord yX12_takeWord, Cond.code yX12_takeWord cX12_takeWord 5 none, Cond.fieldLink RX12 55 "SpellTurnerModel" "word" "[B", Cond.fieldLink RX12 244 "SpellTurnerModel" "letters" "I", Cond.methodLink RX12 303 yX12_through, Cond.instanceMethod yX12_through, Cond.selects RX12 yX12_through yX12_through, Cond.code yX12_through cX12_through 9 none, Cond.fieldLink RX12 270 "SpellTurnerModel" "mades" "I", Cond.fieldLink RX12 88 "SpellTurnerModel" "next" "[B", Cond.fieldLink RX12 91 "SpellTurnerModel" "nextSize" "[I", Cond.fieldLink RX12 76 "SpellTurnerModel" "made" "[B", Cond.fieldLink RX12 79 "SpellTurnerModel" "madeSize" "[I", Cond.methodLink RX12 294 yX12_turnBy, Cond.instanceMethod yX12_turnBy, Cond.selects RX12 yX12_turnBy yX12_turnBy, Cond.code yX12_turnBy cX12_turnBy 6 none]
def wsX12_mixed_r3 : List Cond := [Cond.fieldLink RX12 241 "SpellTurnerModel" "wayMany" "I", Cond.fieldLink RX12 52 "SpellTurnerModel" "listSize" "[I", Cond.fieldLink RX12 49 "SpellTurnerModel" "listText" "[B", Cond.methodLink RX12 277 yX12_listedAs, Cond.instanceMethod yX12_listedAs, Cond.selects RX12 yX12_listedAs yX12_listedAs, Cond.code yX12_listedAs cX12_listedAs 3 (some .int), Cond.fieldLink RX12 27 "SpellTurnerModel" "listed" "[I", Cond.methodLink RX12 273 yX12_sameBytes, Cond.static yX12_sameBytes, Cond.code yX12_sameBytes cX12_sameBytes 7 (some .boolean), Cond.methodLink RX12 280 yX12_makeWays, Cond.instanceMethod yX12_makeWays, Cond.selects RX12 yX12_makeWays yX12_makeWays, Cond.code yX12_makeWays cX12_makeWays 4 none, Cond.fieldLink RX12 67 "SpellTurnerModel" "canEnd" "[Z", Cond.methodLink RX12 247 yX12_isWordPart, Cond.instanceMethod yX12_isWordPart, Cond.selects RX12 yX12_isWordPart yX12_isWordPart, Cond.code yX12_isWordPart cX12_isWordPart 7 (some .boolean), Cond.fieldLink RX12 24 "SpellTurnerModel" "parts" "[I", Cond.fieldLink RX12 46 "SpellTurnerModel" "partSize" "[I", Cond.fieldLink RX12 43 "SpellTurnerModel" "partText" "[B", Cond.methodLink RX12 250 yX12_part]
def wsX12_mixed_r4 : List Cond := [Cond.instanceMethod yX12_part, Cond.selects RX12 yX12_part yX12_part, Cond.code yX12_part cX12_part 5 none, Cond.fieldLink RX12 61 "SpellTurnerModel" "ways" "[I", Cond.fieldLink RX12 58 "SpellTurnerModel" "lengths" "[I", Cond.fieldLink RX12 64 "SpellTurnerModel" "wayParts" "[I", Cond.methodLink RX12 283 yX12_makeForm, Cond.instanceMethod yX12_makeForm, Cond.selects RX12 yX12_makeForm yX12_makeForm, Cond.code yX12_makeForm cX12_makeForm 10 none, Cond.fieldLink RX12 70 "SpellTurnerModel" "part" "[B", Cond.fieldLink RX12 253 "SpellTurnerModel" "partLetters" "I", Cond.fieldLink RX12 21 "SpellTurnerModel" "laws" "[I", Cond.methodLink RX12 266 yX12_lawThrough, Cond.instanceMethod yX12_lawThrough, Cond.selects RX12 yX12_lawThrough yX12_lawThrough, Cond.code yX12_lawThrough cX12_lawThrough 8 none, Cond.fieldLink RX12 33 "SpellTurnerModel" "lawSize" "[I", Cond.fieldLink RX12 36 "SpellTurnerModel" "atStart" "[Z", Cond.fieldLink RX12 40 "SpellTurnerModel" "atEnd" "[Z", Cond.fieldLink RX12 73 "SpellTurnerModel" "written" "[B", Cond.fieldLink RX12 30 "SpellTurnerModel" "lawText" "[B", Cond.fieldLink RX12 260 "SpellTurnerModel" "isUsed" "Z", Cond.fieldLink RX12 263 "SpellTurnerModel" "lawAsked" "I"]
def wsX12_mixed_r5 : List Cond := [Cond.methodLink RX12 256 yX12_stands, Cond.instanceMethod yX12_stands, Cond.selects RX12 yX12_stands yX12_stands, Cond.code yX12_stands cX12_stands 6 (some .boolean), Cond.methodLink RX12 351 yX12_quoted, Cond.instanceMethod yX12_quoted, Cond.selects RX12 yX12_quoted yX12_quoted, Cond.code yX12_quoted cX12_quoted 4 (some .int), Cond.methodLink RX12 354 yX12_isLetter, Cond.static yX12_isLetter, Cond.code yX12_isLetter cX12_isLetter 1 (some .boolean), Cond.methodLink RX12 183 yX12_isSmall, Cond.static yX12_isSmall, Cond.code yX12_isSmall cX12_isSmall 1 (some .boolean), Cond.methodLink RX12 340 yX12_isName, Cond.instanceMethod yX12_isName, Cond.selects RX12 yX12_isName yX12_isName, Cond.code yX12_isName cX12_isName 4 (some .boolean), Cond.methodLink RX12 367 yX12_isKnown, Cond.instanceMethod yX12_isKnown, Cond.selects RX12 yX12_isKnown yX12_isKnown, Cond.code yX12_isKnown cX12_isKnown 5 (some .boolean), Cond.methodLink RX12 321 yX12_hasForm, Cond.instanceMethod yX12_hasForm]
def wsX12_mixed_r6 : List Cond := [Cond.selects RX12 yX12_hasForm yX12_hasForm, Cond.code yX12_hasForm cX12_hasForm 7 (some .boolean), Cond.methodLink RX12 370 yX12_onward, Cond.instanceMethod yX12_onward, Cond.selects RX12 yX12_onward yX12_onward, Cond.code yX12_onward cX12_onward 7 (some .int), Cond.constant RX12 379 (2147483647)]
def wsX12_mixed : List Cond := .code yX12_mixed cX12_mixed 11 (some .int) :: ((wsX12_mixed_r1 ++ (wsX12_mixed_r2 ++ (wsX12_mixed_r3 ++ (wsX12_mixed_r4 ++ (wsX12_mixed_r5 ++ wsX12_mixed_r6))))) ++ wsX120)
def wsX12_line : List Cond := .code yX12_line cX12_line 2 (some .int) :: ([.fieldLink RX12 374 "SpellTurnerModel" "lines" "I", .fieldLink RX12 149 "SpellTurnerModel" "stageOf" "[I", .methodLink RX12 226 yX12_in, .static yX12_in, .initialized RX12, .code yX12_in cX12_in 3 (some .boolean)] ++ wsX120)
def wsX12_count : List Cond := .code yX12_count cX12_count 2 (some .int) :: ([.fieldLink RX12 222 "SpellTurnerModel" "reforms" "I", .fieldLink RX12 312 "SpellTurnerModel" "words" "I", .fieldLink RX12 152 "SpellTurnerModel" "taped" "I"] ++ wsX120)
def wsJ9_max_7cf53 : List Cond := .code yJ9_max_7cf53 cJ9_max_7cf53 2 (some .int) :: ([])
def wsJ9_min_7cf53 : List Cond := .code yJ9_min_7cf53 cJ9_min_7cf53 2 (some .int) :: ([])
def wsL_law_r1 : List Cond := [Cond.classLink RL 7 RX11, Cond.instantiable RX11 17, Cond.initialized RX11, Cond.classLink RL 10 RX12, Cond.instantiable RX12 71, Cond.initialized RX12, Cond.methodLink RL 9 yX11_init, Cond.instanceMethod yX11_init, Cond.code yX11_init cX11_init 1 none, Cond.methodLink RX11 3 objectInit, Cond.instanceMethod objectInit, Cond.code objectInit ⟨#[0xb1]⟩ 1 none, Cond.classLink RX11 9 RX7, Cond.instantiable RX7 2, Cond.initialized RX7, Cond.fieldLink RX11 12 "SpellTurner" "tape" "LSpellTurner$Tape;", Cond.classLink RX11 16 RX5, Cond.fieldLink RX11 18 "SpellTurner" "reforms" "[LSpellTurner$Reform;", Cond.fieldLink RX11 22 "SpellTurner" "reformCount" "I", Cond.fieldLink RX11 26 "SpellTurner" "latestDay" "I", Cond.instantiable RX5 11, Cond.initialized RX5, Cond.fieldLink RX11 30 "SpellTurner" "draft" "LSpellTurner$Reform;", Cond.classLink RX11 34 RX4]
def wsL_law_r2 : List Cond := [Cond.instantiable RX4 9, Cond.initialized RX4, Cond.fieldLink RX11 37 "SpellTurner" "reader" "LSpellTurner$Reader;", Cond.classLink RX11 41 RX9, Cond.instantiable RX9 8, Cond.initialized RX9, Cond.fieldLink RX11 44 "SpellTurner" "turner" "LSpellTurner$Turner;", Cond.classLink RX11 48 RX10, Cond.instantiable RX10 4, Cond.initialized RX10, Cond.fieldLink RX11 53 "SpellTurner" "latestForms" "LSpellTurner$WordRow;", Cond.classLink RX11 57 RX3, Cond.instantiable RX3 7, Cond.initialized RX3, Cond.fieldLink RX11 60 "SpellTurner" "latestPartings" "LSpellTurner$Partings;", Cond.classLink RX11 64 RX0, Cond.instantiable RX0 6, Cond.initialized RX0, Cond.fieldLink RX11 67 "SpellTurner" "book" "LSpellTurner$Book;", Cond.arrayClass .int, Cond.fieldLink RX11 71 "SpellTurner" "owners" "[I", Cond.fieldLink RX11 75 "SpellTurner" "ownerCount" "I", Cond.fieldLink RX11 78 "SpellTurner" "pairs" "[I", Cond.fieldLink RX11 81 "SpellTurner" "pairCount" "I"]
def wsL_law_r3 : List Cond := [Cond.classLink RX11 84 RX8, Cond.instantiable RX8 8, Cond.initialized RX8, Cond.fieldLink RX11 87 "SpellTurner" "textWords" "LSpellTurner$TextWords;", Cond.classLink RX11 91 RX6, Cond.instantiable RX6 9, Cond.initialized RX6, Cond.fieldLink RX11 94 "SpellTurner" "scribe" "LSpellTurner$Scribe;", Cond.classLink RX11 98 RX2, Cond.instantiable RX2 6, Cond.initialized RX2, Cond.fieldLink RX11 101 "SpellTurner" "mixture" "LSpellTurner$Mixture;", Cond.instanceMethod yX7_init, Cond.code yX7_init cX7_init 1 none, Cond.methodLink RX7 3 objectInit, Cond.arrayClass .byte, Cond.fieldLink RX7 9 "SpellTurner$Tape" "bytes" "[B", Cond.fieldLink RX7 15 "SpellTurner$Tape" "length" "I", Cond.instanceMethod yX5_init, Cond.code yX5_init cX5_init 1 none, Cond.methodLink RX5 3 objectInit, Cond.fieldLink RX5 9 "SpellTurner$Reform" "day" "I", Cond.classLink RX5 15 RX1, Cond.fieldLink RX5 17 "SpellTurner$Reform" "laws" "[LSpellTurner$Law;"]
def wsL_law_r4 : List Cond := [Cond.fieldLink RX5 21 "SpellTurner$Reform" "lawCount" "I", Cond.classLink RX5 24 RX10, Cond.fieldLink RX5 29 "SpellTurner$Reform" "parts" "LSpellTurner$WordRow;", Cond.fieldLink RX5 33 "SpellTurner$Reform" "entries" "LSpellTurner$WordRow;", Cond.fieldLink RX5 36 "SpellTurner$Reform" "becomes" "LSpellTurner$WordRow;", Cond.arrayClass .boolean, Cond.fieldLink RX5 39 "SpellTurner$Reform" "kept" "[Z", Cond.fieldLink RX5 43 "SpellTurner$Reform" "keptCount" "I", Cond.fieldLink RX5 46 "SpellTurner$Reform" "turnedParts" "LSpellTurner$WordRow;", Cond.fieldLink RX5 49 "SpellTurner$Reform" "partHolds" "[Z", Cond.arrayClass .long, Cond.fieldLink RX5 52 "SpellTurner$Reform" "partUses" "[J", Cond.methodLink RX5 26 yX10_init, Cond.instanceMethod yX10_init, Cond.code yX10_init cX10_init 3 none, Cond.methodLink RX10 3 objectInit, Cond.fieldLink RX10 9 "SpellTurner$WordRow" "count" "I", Cond.fieldLink RX10 15 "SpellTurner$WordRow" "width" "I", Cond.fieldLink RX10 18 "SpellTurner$WordRow" "letters" "[B", Cond.fieldLink RX10 22 "SpellTurner$WordRow" "lengths" "[I", Cond.instanceMethod yX4_init, Cond.code yX4_init cX4_init 1 none, Cond.methodLink RX4 3 objectInit, Cond.fieldLink RX4 9 "SpellTurner$Reader" "faultKind" "I"]
def wsL_law_r5 : List Cond := [Cond.fieldLink RX4 15 "SpellTurner$Reader" "faultPlace" "I", Cond.fieldLink RX4 18 "SpellTurner$Reader" "text" "[B", Cond.fieldLink RX4 22 "SpellTurner$Reader" "size" "I", Cond.fieldLink RX4 25 "SpellTurner$Reader" "at" "I", Cond.fieldLink RX4 28 "SpellTurner$Reader" "token" "I", Cond.fieldLink RX4 31 "SpellTurner$Reader" "place" "I", Cond.fieldLink RX4 34 "SpellTurner$Reader" "start" "I", Cond.fieldLink RX4 37 "SpellTurner$Reader" "length" "I", Cond.instanceMethod yX9_init, Cond.code yX9_init cX9_init 1 none, Cond.methodLink RX9 3 objectInit, Cond.classLink RX9 9 RX3, Cond.fieldLink RX9 12 "SpellTurner$Turner" "partings" "LSpellTurner$Partings;", Cond.fieldLink RX9 18 "SpellTurner$Turner" "now" "[B", Cond.fieldLink RX9 22 "SpellTurner$Turner" "next" "[B", Cond.fieldLink RX9 25 "SpellTurner$Turner" "length" "I", Cond.fieldLink RX9 29 "SpellTurner$Turner" "used" "J", Cond.fieldLink RX9 33 "SpellTurner$Turner" "whole" "[B", Cond.classLink RX9 36 RX10, Cond.fieldLink RX9 41 "SpellTurner$Turner" "ahead" "LSpellTurner$WordRow;", Cond.fieldLink RX9 45 "SpellTurner$Turner" "behind" "LSpellTurner$WordRow;", Cond.instanceMethod yX3_init, Cond.code yX3_init cX3_init 1 none, Cond.methodLink RX3 3 objectInit]
def wsL_law_r6 : List Cond := [Cond.fieldLink RX3 9 "SpellTurner$Partings" "count" "I", Cond.fieldLink RX3 15 "SpellTurner$Partings" "sizes" "[I", Cond.fieldLink RX3 19 "SpellTurner$Partings" "picks" "[B", Cond.fieldLink RX3 23 "SpellTurner$Partings" "fitting" "[B", Cond.fieldLink RX3 26 "SpellTurner$Partings" "closes" "[Z", Cond.fieldLink RX3 30 "SpellTurner$Partings" "path" "[B", Cond.classLink RX3 33 RX10, Cond.fieldLink RX3 38 "SpellTurner$Partings" "parts" "LSpellTurner$WordRow;", Cond.methodLink RX3 35 yX10_init, Cond.methodLink RX9 38 yX10_init, Cond.methodLink RX11 50 yX10_init, Cond.instanceMethod yX0_init, Cond.code yX0_init cX0_init 1 none, Cond.methodLink RX0 3 objectInit, Cond.classLink RX0 9 RX10, Cond.fieldLink RX0 14 "SpellTurner$Book" "words" "LSpellTurner$WordRow;", Cond.fieldLink RX0 20 "SpellTurner$Book" "forms" "[LSpellTurner$WordRow;", Cond.fieldLink RX0 24 "SpellTurner$Book" "lawsUsed" "[J", Cond.fieldLink RX0 28 "SpellTurner$Book" "filled" "[I", Cond.fieldLink RX0 32 "SpellTurner$Book" "spare" "LSpellTurner$WordRow;", Cond.fieldLink RX0 35 "SpellTurner$Book" "nothing" "LSpellTurner$WordRow;", Cond.methodLink RX0 11 yX10_init, Cond.instanceMethod yX8_init, Cond.code yX8_init cX8_init 1 none]
def wsL_law_r7 : List Cond := [Cond.methodLink RX8 3 objectInit, Cond.fieldLink RX8 9 "SpellTurner$TextWords" "start" "I", Cond.fieldLink RX8 15 "SpellTurner$TextWords" "length" "I", Cond.fieldLink RX8 18 "SpellTurner$TextWords" "lineNumber" "I", Cond.fieldLink RX8 21 "SpellTurner$TextWords" "isName" "Z", Cond.fieldLink RX8 25 "SpellTurner$TextWords" "text" "[B", Cond.fieldLink RX8 29 "SpellTurner$TextWords" "size" "I", Cond.fieldLink RX8 32 "SpellTurner$TextWords" "at" "I", Cond.fieldLink RX8 35 "SpellTurner$TextWords" "quoted" "Z", Cond.instanceMethod yX6_init, Cond.code yX6_init cX6_init 1 none, Cond.methodLink RX6 3 objectInit, Cond.fieldLink RX6 9 "SpellTurner$Scribe" "told" "[B", Cond.fieldLink RX6 15 "SpellTurner$Scribe" "page" "[B", Cond.fieldLink RX6 18 "SpellTurner$Scribe" "toldTally" "[I", Cond.fieldLink RX6 22 "SpellTurner$Scribe" "tally" "[I", Cond.fieldLink RX6 25 "SpellTurner$Scribe" "hasTold" "Z", Cond.fieldLink RX6 29 "SpellTurner$Scribe" "toldSize" "I", Cond.fieldLink RX6 33 "SpellTurner$Scribe" "size" "I", Cond.fieldLink RX6 36 "SpellTurner$Scribe" "copied" "I", Cond.fieldLink RX6 39 "SpellTurner$Scribe" "fits" "Z", Cond.instanceMethod yX2_init, Cond.code yX2_init cX2_init 1 none, Cond.methodLink RX2 3 objectInit]
def wsL_law_r8 : List Cond := [Cond.fieldLink RX2 9 "SpellTurner$Mixture" "costs" "[I", Cond.fieldLink RX2 15 "SpellTurner$Mixture" "least" "[I", Cond.fieldLink RX2 18 "SpellTurner$Mixture" "told" "[I", Cond.fieldLink RX2 21 "SpellTurner$Mixture" "toldLines" "I", Cond.fieldLink RX2 25 "SpellTurner$Mixture" "lines" "I", Cond.fieldLink RX2 28 "SpellTurner$Mixture" "stages" "I", Cond.methodLink RL 12 yX12_init, Cond.instanceMethod yX12_init, Cond.code yX12_init cX12_init 1 none, Cond.methodLink RX12 1 objectInit, Cond.fieldLink RX12 7 "SpellTurnerModel" "tape" "[B", Cond.fieldLink RX12 13 "SpellTurnerModel" "faultPlace" "I", Cond.fieldLink RX12 17 "SpellTurnerModel" "day" "[I", Cond.fieldLink RX12 21 "SpellTurnerModel" "laws" "[I", Cond.fieldLink RX12 24 "SpellTurnerModel" "parts" "[I", Cond.fieldLink RX12 27 "SpellTurnerModel" "listed" "[I", Cond.fieldLink RX12 30 "SpellTurnerModel" "lawText" "[B", Cond.fieldLink RX12 33 "SpellTurnerModel" "lawSize" "[I", Cond.fieldLink RX12 36 "SpellTurnerModel" "atStart" "[Z", Cond.fieldLink RX12 40 "SpellTurnerModel" "atEnd" "[Z", Cond.fieldLink RX12 43 "SpellTurnerModel" "partText" "[B", Cond.fieldLink RX12 46 "SpellTurnerModel" "partSize" "[I", Cond.fieldLink RX12 49 "SpellTurnerModel" "listText" "[B", Cond.fieldLink RX12 52 "SpellTurnerModel" "listSize" "[I"]
def wsL_law_r9 : List Cond := [Cond.fieldLink RX12 55 "SpellTurnerModel" "word" "[B", Cond.fieldLink RX12 58 "SpellTurnerModel" "lengths" "[I", Cond.fieldLink RX12 61 "SpellTurnerModel" "ways" "[I", Cond.fieldLink RX12 64 "SpellTurnerModel" "wayParts" "[I", Cond.fieldLink RX12 67 "SpellTurnerModel" "canEnd" "[Z", Cond.fieldLink RX12 70 "SpellTurnerModel" "part" "[B", Cond.fieldLink RX12 73 "SpellTurnerModel" "written" "[B", Cond.fieldLink RX12 76 "SpellTurnerModel" "made" "[B", Cond.fieldLink RX12 79 "SpellTurnerModel" "madeSize" "[I", Cond.fieldLink RX12 82 "SpellTurnerModel" "now" "[B", Cond.fieldLink RX12 85 "SpellTurnerModel" "nowSize" "[I", Cond.fieldLink RX12 88 "SpellTurnerModel" "next" "[B", Cond.fieldLink RX12 91 "SpellTurnerModel" "nextSize" "[I", Cond.fieldLink RX12 94 "SpellTurnerModel" "told" "[B", Cond.fieldLink RX12 97 "SpellTurnerModel" "toldSize" "[I", Cond.fieldLink RX12 100 "SpellTurnerModel" "toldWays" "[I", Cond.fieldLink RX12 103 "SpellTurnerModel" "toldParts" "[I", Cond.fieldLink RX12 106 "SpellTurnerModel" "bookText" "[B", Cond.fieldLink RX12 109 "SpellTurnerModel" "bookSize" "[I", Cond.constant RX12 112 (201600), Cond.fieldLink RX12 113 "SpellTurnerModel" "formText" "[B", Cond.fieldLink RX12 116 "SpellTurnerModel" "formSize" "[I", Cond.fieldLink RX12 119 "SpellTurnerModel" "formMany" "[I", Cond.fieldLink RX12 122 "SpellTurnerModel" "olds" "[I"]
def wsL_law_r10 : List Cond := [Cond.fieldLink RX12 125 "SpellTurnerModel" "asked" "[B", Cond.fieldLink RX12 128 "SpellTurnerModel" "pairs" "[I", Cond.fieldLink RX12 131 "SpellTurnerModel" "text" "[B", Cond.fieldLink RX12 134 "SpellTurnerModel" "draft" "[B", Cond.fieldLink RX12 137 "SpellTurnerModel" "counts" "[I", Cond.fieldLink RX12 140 "SpellTurnerModel" "newCounts" "[I", Cond.fieldLink RX12 143 "SpellTurnerModel" "cost" "[I", Cond.fieldLink RX12 146 "SpellTurnerModel" "sum" "[I", Cond.fieldLink RX12 149 "SpellTurnerModel" "stageOf" "[I", Cond.methodLink RL 13 yX11_feed, Cond.instanceMethod yX11_feed, Cond.selects RX11 yX11_feed yX11_feed, Cond.code yX11_feed cX11_feed 6 (some .int), Cond.fieldLink RX11 105 "SpellTurner$Tape" "length" "I", Cond.methodLink RX11 108 yX7_append, Cond.instanceMethod yX7_append, Cond.selects RX7 yX7_append yX7_append, Cond.code yX7_append cX7_append 3 none, Cond.methodLink RL 17 yX12_feed, Cond.instanceMethod yX12_feed, Cond.selects RX12 yX12_feed yX12_feed, Cond.code yX12_feed cX12_feed 9 (some .int), Cond.fieldLink RX12 152 "SpellTurnerModel" "taped" "I", Cond.methodLink RL 18 yX11_end]
def wsL_law_r11 : List Cond := [Cond.instanceMethod yX11_end, Cond.selects RX11 yX11_end yX11_end, Cond.code yX11_end cX11_end 2 (some .int), Cond.methodLink RL 22 yX12_end, Cond.instanceMethod yX12_end, Cond.selects RX12 yX12_end yX12_end, Cond.code yX12_end cX12_end 2 (some .int), Cond.methodLink RL 23 yX11_reform, Cond.instanceMethod yX11_reform, Cond.selects RX11 yX11_reform yX11_reform, Cond.code yX11_reform cX11_reform 3 (some .int), Cond.constant RX11 116 (100000), Cond.fieldLink RX11 120 "SpellTurner$Tape" "bytes" "[B", Cond.fieldLink RX11 128 "SpellTurner$Reader" "faultKind" "I", Cond.methodLink RX11 112 yX7_take, Cond.instanceMethod yX7_take, Cond.selects RX7 yX7_take yX7_take, Cond.code yX7_take cX7_take 2 (some .int), Cond.methodLink RX11 117 yX5_clear, Cond.instanceMethod yX5_clear, Cond.selects RX5 yX5_clear yX5_clear, Cond.code yX5_clear cX5_clear 2 none, Cond.fieldLink RX5 56 "SpellTurner$WordRow" "count" "I", Cond.methodLink RX11 124 yX4_read]
def wsL_law_r12 : List Cond := [Cond.instanceMethod yX4_read, Cond.selects RX4 yX4_read yX4_read, Cond.code yX4_read cX4_read 5 none, Cond.methodLink RX4 40 Lib.Math.min.name, Cond.static Lib.Math.min.name, Cond.initialized "java/lang/Math", Cond.code Lib.Math.min.name Lib.Math.min.code 2 (some .int), Cond.methodLink RX4 46 yX4_nextToken, Cond.instanceMethod yX4_nextToken, Cond.selects RX4 yX4_nextToken yX4_nextToken, Cond.code yX4_nextToken cX4_nextToken 1 none, Cond.methodLink RX4 186 yX4_scanRun, Cond.instanceMethod yX4_scanRun, Cond.selects RX4 yX4_scanRun yX4_scanRun, Cond.code yX4_scanRun cX4_scanRun 2 none, Cond.methodLink RX4 190 yX10_isSmall, Cond.static yX10_isSmall, Cond.code yX10_isSmall cX10_isSmall 1 (some .boolean), Cond.methodLink RX4 51 yX4_wordIs, Cond.instanceMethod yX4_wordIs, Cond.selects RX4 yX4_wordIs yX4_wordIs, Cond.code yX4_wordIs cX4_wordIs 3 (some .boolean), Cond.methodLink RX4 177 yJ0_length_8abf5, Cond.instanceMethod yJ0_length_8abf5]
def wsL_law_r13 : List Cond := [Cond.selects RJ0 yJ0_length_8abf5 yJ0_length_8abf5, Cond.initialized RJ0, Cond.code yJ0_length_8abf5 cJ0_length_8abf5 1 (some .int), Cond.fieldLink RJ0 9 "java/lang/String" "value" "[B", Cond.methodLink RJ0 335 yJ0_coder_7d493, Cond.instanceMethod yJ0_coder_7d493, Cond.selects RJ0 yJ0_coder_7d493 yJ0_coder_7d493, Cond.code yJ0_coder_7d493 cJ0_coder_7d493 1 (some .byte), Cond.fieldLink RJ0 38 "java/lang/String" "COMPACT_STRINGS" "Z", Cond.fieldLink RJ0 15 "java/lang/String" "coder" "B", Cond.methodLink RX4 182 yJ0_charAt_5068e, Cond.instanceMethod yJ0_charAt_5068e, Cond.selects RJ0 yJ0_charAt_5068e yJ0_charAt_5068e, Cond.code yJ0_charAt_5068e cJ0_charAt_5068e 2 (some .char), Cond.methodLink RJ0 492 yJ0_isLatin1_aae02, Cond.instanceMethod yJ0_isLatin1_aae02, Cond.selects RJ0 yJ0_isLatin1_aae02 yJ0_isLatin1_aae02, Cond.code yJ0_isLatin1_aae02 cJ0_isLatin1_aae02 1 (some .boolean), Cond.methodLink RJ0 495 yJ1_charAt_3b067, Cond.static yJ1_charAt_3b067, Cond.initialized RJ1, Cond.code yJ1_charAt_3b067 cJ1_charAt_3b067 2 (some .char), Cond.methodLink RJ1 9 yJ0_checkIndex_df160, Cond.static yJ0_checkIndex_df160]
def wsL_law_r14 : List Cond := [Cond.code yJ0_checkIndex_df160 cJ0_checkIndex_df160 2 none, Cond.fieldLink RJ0 1053 "jdk/internal/util/Preconditions" "SIOOBE_FORMATTER" "Ljava/util/function/BiFunction;", Cond.methodLink RJ0 1059 yJ3_checkIndex_8e157, Cond.static yJ3_checkIndex_8e157, Cond.initialized RJ3, Cond.code yJ3_checkIndex_8e157 cJ3_checkIndex_8e157 3 (some .int), Cond.methodLink RJ0 498 yJ2_charAt_3b067, Cond.static yJ2_charAt_3b067, Cond.initialized RJ2, Cond.code yJ2_charAt_3b067 cJ2_charAt_3b067 2 (some .char), Cond.methodLink RJ2 67 yJ2_checkIndex_2214a, Cond.static yJ2_checkIndex_2214a, Cond.code yJ2_checkIndex_2214a cJ2_checkIndex_2214a 2 none, Cond.methodLink RJ2 48 yJ2_length_9d52b, Cond.static yJ2_length_9d52b, Cond.code yJ2_length_9d52b cJ2_length_9d52b 1 (some .int), Cond.methodLink RJ2 414 yJ0_checkIndex_df160, Cond.methodLink RJ2 71 yJ2_getChar_3b067, Cond.static yJ2_getChar_3b067, Cond.code yJ2_getChar_3b067 cJ2_getChar_3b067 2 (some .char), Cond.fieldLink RJ2 44 "java/lang/StringUTF16" "$assertionsDisabled" "Z", Cond.fieldLink RJ2 59 "java/lang/StringUTF16" "HI_BYTE_SHIFT" "I", Cond.fieldLink RJ2 63 "java/lang/StringUTF16" "LO_BYTE_SHIFT" "I", Cond.methodLink RX4 55 yX4_readKeep]
def wsL_law_r15 : List Cond := [Cond.instanceMethod yX4_readKeep, Cond.selects RX4 yX4_readKeep yX4_readKeep, Cond.code yX4_readKeep cX4_readKeep 2 none, Cond.fieldLink RX4 78 "SpellTurner$Reform" "entries" "LSpellTurner$WordRow;", Cond.methodLink RX4 84 yX10_isFull, Cond.instanceMethod yX10_isFull, Cond.selects RX10 yX10_isFull yX10_isFull, Cond.code yX10_isFull cX10_isFull 1 (some .boolean), Cond.methodLink RX4 90 yX4_hasRoom, Cond.instanceMethod yX4_hasRoom, Cond.selects RX4 yX4_hasRoom yX4_hasRoom, Cond.code yX4_hasRoom cX4_hasRoom 2 (some .boolean), Cond.methodLink RX4 74 yX4_blame, Cond.instanceMethod yX4_blame, Cond.selects RX4 yX4_blame yX4_blame, Cond.code yX4_blame cX4_blame 2 (some .boolean), Cond.methodLink RX4 94 yX4_takeNew, Cond.instanceMethod yX4_takeNew, Cond.selects RX4 yX4_takeNew yX4_takeNew, Cond.code yX4_takeNew cX4_takeNew 2 (some .boolean), Cond.methodLink RX4 111 yX4_takeLetters, Cond.instanceMethod yX4_takeLetters, Cond.selects RX4 yX4_takeLetters yX4_takeLetters, Cond.code yX4_takeLetters cX4_takeLetters 2 (some .boolean)]
def wsL_law_r16 : List Cond := [Cond.methodLink RX4 165 yX10_find, Cond.instanceMethod yX10_find, Cond.selects RX10 yX10_find yX10_find, Cond.code yX10_find cX10_find 5 (some .int), Cond.methodLink RX10 44 yX10_same, Cond.static yX10_same, Cond.code yX10_same cX10_same 6 (some .boolean), Cond.methodLink RX4 147 yX4_isNew, Cond.instanceMethod yX4_isNew, Cond.selects RX4 yX4_isNew yX4_isNew, Cond.code yX4_isNew cX4_isNew 2 (some .boolean), Cond.methodLink RX4 98 yX5_addKept, Cond.instanceMethod yX5_addKept, Cond.selects RX5 yX5_addKept yX5_addKept, Cond.code yX5_addKept cX5_addKept 4 none, Cond.methodLink RX5 59 yX5_addEntry, Cond.instanceMethod yX5_addEntry, Cond.selects RX5 yX5_addEntry yX5_addEntry, Cond.code yX5_addEntry cX5_addEntry 5 none, Cond.methodLink RX5 67 yX10_isFull, Cond.methodLink RX5 63 yX10_add, Cond.instanceMethod yX10_add, Cond.selects RX10 yX10_add yX10_add, Cond.code yX10_add cX10_add 4 none]
def wsL_law_r17 : List Cond := [Cond.methodLink RX10 30 arraycopyName, Cond.native arraycopyName, Cond.static arraycopyName, Cond.initialized "java/lang/System", Cond.methodLink RX10 26 yX10_isFull, Cond.methodLink RX4 102 yX4_takeClose, Cond.instanceMethod yX4_takeClose, Cond.selects RX4 yX4_takeClose yX4_takeClose, Cond.code yX4_takeClose cX4_takeClose 1 (some .boolean), Cond.methodLink RX4 61 yX4_readList, Cond.instanceMethod yX4_readList, Cond.selects RX4 yX4_readList yX4_readList, Cond.code yX4_readList cX4_readList 2 none, Cond.fieldLink RX4 114 "SpellTurner$Reform" "becomes" "LSpellTurner$WordRow;", Cond.methodLink RX4 105 yX5_addListed, Cond.instanceMethod yX5_addListed, Cond.selects RX5 yX5_addListed yX5_addListed, Cond.code yX5_addListed cX5_addListed 4 none, Cond.methodLink RX4 108 yX4_takeTo, Cond.instanceMethod yX4_takeTo, Cond.selects RX4 yX4_takeTo yX4_takeTo, Cond.code yX4_takeTo cX4_takeTo 1 (some .boolean), Cond.methodLink RX4 117 yX10_add, Cond.methodLink RX4 66 yX4_readPart]
def wsL_law_r18 : List Cond := [Cond.instanceMethod yX4_readPart, Cond.selects RX4 yX4_readPart yX4_readPart, Cond.code yX4_readPart cX4_readPart 2 none, Cond.fieldLink RX4 120 "SpellTurner$Reform" "parts" "LSpellTurner$WordRow;", Cond.methodLink RX4 71 yX4_readLaw, Cond.instanceMethod yX4_readLaw, Cond.selects RX4 yX4_readLaw yX4_readLaw, Cond.code yX4_readLaw cX4_readLaw 5 none, Cond.fieldLink RX4 123 "SpellTurner$Reform" "lawCount" "I", Cond.classLink RX4 130 RX1, Cond.instantiable RX1 6, Cond.initialized RX1, Cond.methodLink RX4 126 yX4_letters, Cond.instanceMethod yX4_letters, Cond.selects RX4 yX4_letters yX4_letters, Cond.code yX4_letters cX4_letters 1 (some (.array .byte)), Cond.methodLink RX4 171 yJ7_copyOfRange_39247, Cond.static yJ7_copyOfRange_39247, Cond.initialized RJ7, Cond.code yJ7_copyOfRange_39247 cJ7_copyOfRange_39247 3 (some (.array .byte)), Cond.methodLink RJ7 310 ⟨"[B", "clone", "()Ljava/lang/Object;"⟩, Cond.sameMethod "[B" "java/lang/Object" "clone" "()Ljava/lang/Object;", Cond.native ⟨"java/lang/Object", "clone", "()Ljava/lang/Object;"⟩, Cond.instanceMethod ⟨"java/lang/Object", "clone", "()Ljava/lang/Object;"⟩]
def wsL_law_r19 : List Cond := [Cond.selects "[B" ⟨"[B", "clone", "()Ljava/lang/Object;"⟩ ⟨"java/lang/Object", "clone", "()Ljava/lang/Object;"⟩, Cond.classLink RJ7 311 "[B", Cond.methodLink RJ7 339 yJ7_copyOfRangeByte_39247, Cond.static yJ7_copyOfRangeByte_39247, Cond.code yJ7_copyOfRangeByte_39247 cJ7_copyOfRangeByte_39247 5 (some (.array .byte)), Cond.methodLink RJ7 304 Lib.Math.min.name, Cond.methodLink RJ7 150 arraycopyName, Cond.methodLink RJ7 343 yJ7_checkLength_df160, Cond.static yJ7_checkLength_df160, Cond.code yJ7_checkLength_df160 cJ7_checkLength_df160 2 none, Cond.methodLink RX4 132 yX1_init, Cond.instanceMethod yX1_init, Cond.code yX1_init cX1_init 3 none, Cond.methodLink RX1 1 objectInit, Cond.fieldLink RX1 7 "SpellTurner$Law" "ahead" "[B", Cond.fieldLink RX1 13 "SpellTurner$Law" "behind" "[B", Cond.fieldLink RX1 16 "SpellTurner$Law" "atStart" "Z", Cond.fieldLink RX1 20 "SpellTurner$Law" "atEnd" "Z", Cond.fieldLink RX1 23 "SpellTurner$Law" "first" "[B", Cond.fieldLink RX1 26 "SpellTurner$Law" "second" "[B", Cond.methodLink RX4 135 yX5_addLaw, Cond.instanceMethod yX5_addLaw, Cond.selects RX5 yX5_addLaw yX5_addLaw, Cond.code yX5_addLaw cX5_addLaw 2 none]
def wsL_law_r20 : List Cond := [Cond.methodLink RX4 139 yX4_readSide, Cond.instanceMethod yX4_readSide, Cond.selects RX4 yX4_readSide yX4_readSide, Cond.code yX4_readSide cX4_readSide 2 none, Cond.fieldLink RX4 143 "SpellTurner$Law" "atStart" "Z", Cond.fieldLink RX4 152 "SpellTurner$Law" "atEnd" "Z", Cond.fieldLink RX4 157 "SpellTurner$Law" "ahead" "[B", Cond.fieldLink RX4 162 "SpellTurner$Law" "behind" "[B", Cond.methodLink RX11 131 yX9_turnParts, Cond.instanceMethod yX9_turnParts, Cond.selects RX9 yX9_turnParts yX9_turnParts, Cond.code yX9_turnParts cX9_turnParts 5 none, Cond.fieldLink RX9 48 "SpellTurner$Reform" "parts" "LSpellTurner$WordRow;", Cond.fieldLink RX9 53 "SpellTurner$WordRow" "count" "I", Cond.fieldLink RX9 56 "SpellTurner$WordRow" "letters" "[B", Cond.fieldLink RX9 59 "SpellTurner$WordRow" "width" "I", Cond.fieldLink RX9 62 "SpellTurner$WordRow" "lengths" "[I", Cond.fieldLink RX9 70 "SpellTurner$Reform" "partHolds" "[Z", Cond.fieldLink RX9 74 "SpellTurner$Reform" "partUses" "[J", Cond.fieldLink RX9 78 "SpellTurner$Reform" "turnedParts" "LSpellTurner$WordRow;", Cond.methodLink RX9 66 yX9_runLaws, Cond.instanceMethod yX9_runLaws, Cond.selects RX9 yX9_runLaws yX9_runLaws, Cond.code yX9_runLaws cX9_runLaws 7 (some .boolean)]
def wsL_law_r21 : List Cond := [Cond.methodLink RX9 140 Lib.Math.min.name, Cond.methodLink RX9 134 arraycopyName, Cond.fieldLink RX9 143 "SpellTurner$Reform" "lawCount" "I", Cond.fieldLink RX9 146 "SpellTurner$Reform" "laws" "[LSpellTurner$Law;", Cond.methodLink RX9 150 yX9_apply, Cond.instanceMethod yX9_apply, Cond.selects RX9 yX9_apply yX9_apply, Cond.code yX9_apply cX9_apply 5 (some .boolean), Cond.fieldLink RX9 160 "SpellTurner$Law" "second" "[B", Cond.fieldLink RX9 163 "SpellTurner$Law" "first" "[B", Cond.methodLink RX9 88 Lib.Math.max.name, Cond.static Lib.Math.max.name, Cond.code Lib.Math.max.name Lib.Math.max.code 2 (some .int), Cond.methodLink RX9 154 yX1_standsAt, Cond.instanceMethod yX1_standsAt, Cond.selects RX1 yX1_standsAt yX1_standsAt, Cond.code yX1_standsAt cX1_standsAt 7 (some .boolean), Cond.methodLink RX1 29 yX10_same, Cond.methodLink RX9 81 yX10_add, Cond.methodLink RL 26 yX12_reform, Cond.instanceMethod yX12_reform, Cond.selects RX12 yX12_reform yX12_reform, Cond.code yX12_reform cX12_reform 4 (some .int), Cond.fieldLink RX12 155 "SpellTurnerModel" "size" "I"]
def wsL_law_r22 : List Cond := [Cond.fieldLink RX12 222 "SpellTurnerModel" "reforms" "I", Cond.constant RX12 225 (100000), Cond.fieldLink RX12 194 "SpellTurnerModel" "faultKind" "I", Cond.fieldLink RX12 174 "SpellTurnerModel" "end" "I", Cond.fieldLink RX12 180 "SpellTurnerModel" "sort" "I", Cond.fieldLink RX12 237 "SpellTurnerModel" "isMade" "Z", Cond.methodLink RX12 226 yX12_in, Cond.static yX12_in, Cond.code yX12_in cX12_in 3 (some .boolean), Cond.methodLink RX12 200 yX12_scan, Cond.instanceMethod yX12_scan, Cond.selects RX12 yX12_scan yX12_scan, Cond.code yX12_scan cX12_scan 4 none, Cond.fieldLink RX12 177 "SpellTurnerModel" "at" "I", Cond.fieldLink RX12 191 "SpellTurnerModel" "what" "I", Cond.methodLink RX12 170 yX12_see, Cond.instanceMethod yX12_see, Cond.selects RX12 yX12_see yX12_see, Cond.code yX12_see cX12_see 2 (some .int), Cond.methodLink RX12 183 yX12_isSmall, Cond.static yX12_isSmall, Cond.code yX12_isSmall cX12_isSmall 1 (some .boolean), Cond.methodLink RX12 187 yX12_keyAt, Cond.instanceMethod yX12_keyAt]
def wsL_law_r23 : List Cond := [Cond.selects RX12 yX12_keyAt yX12_keyAt, Cond.code yX12_keyAt cX12_keyAt 8 (some .int), Cond.methodLink RX12 160 yJ0_length_8abf5, Cond.methodLink RX12 166 yJ0_charAt_5068e, Cond.methodLink RX12 230 yX12_readItem, Cond.instanceMethod yX12_readItem, Cond.selects RX12 yX12_readItem yX12_readItem, Cond.code yX12_readItem cX12_readItem 2 (some .boolean), Cond.methodLink RX12 197 yX12_wrong, Cond.instanceMethod yX12_wrong, Cond.selects RX12 yX12_wrong yX12_wrong, Cond.code yX12_wrong cX12_wrong 2 (some .boolean), Cond.methodLink RX12 211 yX12_readListed, Cond.instanceMethod yX12_readListed, Cond.selects RX12 yX12_readListed yX12_readListed, Cond.code yX12_readListed cX12_readListed 4 (some .boolean), Cond.methodLink RX12 203 yX12_take, Cond.instanceMethod yX12_take, Cond.selects RX12 yX12_take yX12_take, Cond.code yX12_take cX12_take 7 (some .boolean), Cond.methodLink RX12 207 yX12_same, Cond.static yX12_same, Cond.code yX12_same cX12_same 5 (some .boolean), Cond.methodLink RX12 215 yX12_readPart]
def wsL_law_r24 : List Cond := [Cond.instanceMethod yX12_readPart, Cond.selects RX12 yX12_readPart yX12_readPart, Cond.code yX12_readPart cX12_readPart 3 (some .boolean), Cond.methodLink RX12 219 yX12_readLaw, Cond.instanceMethod yX12_readLaw, Cond.selects RX12 yX12_readLaw yX12_readLaw, Cond.code yX12_readLaw cX12_readLaw 4 (some .boolean), Cond.methodLink RX12 233 yX12_copy, Cond.static yX12_copy, Cond.code yX12_copy cX12_copy 5 none, Cond.methodLink RL 27 yX11_fault, Cond.instanceMethod yX11_fault, Cond.selects RX11 yX11_fault yX11_fault, Cond.code yX11_fault cX11_fault 2 (some .int), Cond.fieldLink RX11 135 "SpellTurner$Reader" "faultPlace" "I", Cond.methodLink RL 30 yX12_fault, Cond.instanceMethod yX12_fault, Cond.selects RX12 yX12_fault yX12_fault, Cond.code yX12_fault cX12_fault 2 (some .int), Cond.methodLink RL 31 yX11_about, Cond.instanceMethod yX11_about, Cond.selects RX11 yX11_about yX11_about, Cond.code yX11_about cX11_about 4 (some .int), Cond.fieldLink RX11 142 "SpellTurner$Reform" "day" "I"]
def wsL_law_r25 : List Cond := [Cond.fieldLink RX11 145 "SpellTurner$Reform" "lawCount" "I", Cond.fieldLink RX11 148 "SpellTurner$Reform" "parts" "LSpellTurner$WordRow;", Cond.fieldLink RX11 151 "SpellTurner$WordRow" "count" "I", Cond.fieldLink RX11 154 "SpellTurner$Reform" "keptCount" "I", Cond.fieldLink RX11 157 "SpellTurner$Reform" "entries" "LSpellTurner$WordRow;", Cond.methodLink RX11 138 yX11_reformAt, Cond.instanceMethod yX11_reformAt, Cond.selects RX11 yX11_reformAt yX11_reformAt, Cond.code yX11_reformAt cX11_reformAt 2 (some (.object "SpellTurner$Reform")), Cond.methodLink RL 35 yX12_about, Cond.instanceMethod yX12_about, Cond.selects RX12 yX12_about yX12_about, Cond.code yX12_about cX12_about 5 (some .int), Cond.methodLink RL 36 yX11_stage, Cond.instanceMethod yX11_stage, Cond.selects RX11 yX11_stage yX11_stage, Cond.code yX11_stage cX11_stage 5 (some .int), Cond.methodLink RL 39 yX12_stage, Cond.instanceMethod yX12_stage, Cond.selects RX12 yX12_stage yX12_stage, Cond.code yX12_stage cX12_stage 4 (some .int), Cond.methodLink RL 40 yX11_turn, Cond.instanceMethod yX11_turn, Cond.selects RX11 yX11_turn yX11_turn]
def wsL_law_r26 : List Cond := [Cond.code yX11_turn cX11_turn 4 (some .int), Cond.methodLink RX11 160 yX11_areStages, Cond.instanceMethod yX11_areStages, Cond.selects RX11 yX11_areStages yX11_areStages, Cond.code yX11_areStages cX11_areStages 3 (some .boolean), Cond.methodLink RX11 208 yX11_isStage, Cond.instanceMethod yX11_isStage, Cond.selects RX11 yX11_isStage yX11_isStage, Cond.code yX11_isStage cX11_isStage 2 (some .boolean), Cond.methodLink RX11 164 yX7_isWord, Cond.instanceMethod yX7_isWord, Cond.selects RX7 yX7_isWord yX7_isWord, Cond.code yX7_isWord cX7_isWord 3 (some .boolean), Cond.methodLink RX7 19 yX10_isSmall, Cond.methodLink RX11 168 yX9_through, Cond.instanceMethod yX9_through, Cond.selects RX9 yX9_through yX9_through, Cond.code yX9_through cX9_through 9 (some (.object "SpellTurner$WordRow")), Cond.methodLink RX9 85 yX10_addForm, Cond.instanceMethod yX10_addForm, Cond.selects RX10 yX10_addForm yX10_addForm, Cond.code yX10_addForm cX10_addForm 4 none, Cond.methodLink RX10 36 yX10_find, Cond.methodLink RX10 40 yX10_add]
def wsL_law_r27 : List Cond := [Cond.methodLink RX9 94 yX9_turnForms, Cond.instanceMethod yX9_turnForms, Cond.selects RX9 yX9_turnForms yX9_turnForms, Cond.code yX9_turnForms cX9_turnForms 7 (some .long), Cond.methodLink RX9 98 yX9_turnWord, Cond.instanceMethod yX9_turnWord, Cond.selects RX9 yX9_turnWord yX9_turnWord, Cond.code yX9_turnWord cX9_turnWord 11 (some .long), Cond.fieldLink RX9 102 "SpellTurner$Reform" "entries" "LSpellTurner$WordRow;", Cond.fieldLink RX9 116 "SpellTurner$Partings" "count" "I", Cond.methodLink RX9 105 yX10_find, Cond.methodLink RX9 109 yX9_addEntry, Cond.instanceMethod yX9_addEntry, Cond.selects RX9 yX9_addEntry yX9_addEntry, Cond.code yX9_addEntry cX9_addEntry 5 none, Cond.fieldLink RX9 125 "SpellTurner$Reform" "becomes" "LSpellTurner$WordRow;", Cond.methodLink RX9 121 yX5_isKept, Cond.instanceMethod yX5_isKept, Cond.selects RX5 yX5_isKept yX5_isKept, Cond.code yX5_isKept cX5_isKept 2 (some .boolean), Cond.methodLink RX9 113 yX3_find, Cond.instanceMethod yX3_find, Cond.selects RX3 yX3_find yX3_find, Cond.code yX3_find cX3_find 6 none]
def wsL_law_r28 : List Cond := [Cond.fieldLink RX3 42 "SpellTurner$WordRow" "count" "I", Cond.methodLink RX3 43 yX3_markFitting, Cond.instanceMethod yX3_markFitting, Cond.selects RX3 yX3_markFitting yX3_markFitting, Cond.code yX3_markFitting cX3_markFitting 7 none, Cond.fieldLink RX3 55 "SpellTurner$WordRow" "lengths" "[I", Cond.methodLink RX3 58 yJ7_fill_eb02e, Cond.static yJ7_fill_eb02e, Cond.code yJ7_fill_eb02e cJ7_fill_eb02e 5 none, Cond.methodLink RJ7 13 yJ7_rangeCheck_23922, Cond.static yJ7_rangeCheck_23922, Cond.code yJ7_rangeCheck_23922 cJ7_rangeCheck_23922 3 none, Cond.methodLink RX3 64 yX10_standsIn, Cond.instanceMethod yX10_standsIn, Cond.selects RX10 yX10_standsIn yX10_standsIn, Cond.code yX10_standsIn cX10_standsIn 4 (some .boolean), Cond.methodLink RX3 47 yX3_walk, Cond.instanceMethod yX3_walk, Cond.selects RX3 yX3_walk yX3_walk, Cond.code yX3_walk cX3_walk 6 none, Cond.methodLink RX3 68 yX3_note, Cond.instanceMethod yX3_note, Cond.selects RX3 yX3_note yX3_note, Cond.code yX3_note cX3_note 2 none]
def wsL_law_r29 : List Cond := [Cond.methodLink RX3 72 arraycopyName, Cond.methodLink RX9 117 yX9_turnParting, Cond.instanceMethod yX9_turnParting, Cond.selects RX9 yX9_turnParting yX9_turnParting, Cond.code yX9_turnParting cX9_turnParting 10 (some .long), Cond.fieldLink RX9 128 "SpellTurner$Partings" "sizes" "[I", Cond.methodLink RX9 131 yX3_pick, Cond.instanceMethod yX3_pick, Cond.selects RX3 yX3_pick yX3_pick, Cond.code yX3_pick cX3_pick 3 (some .int), Cond.methodLink RX11 172 yX10_copy, Cond.instanceMethod yX10_copy, Cond.selects RX10 yX10_copy yX10_copy, Cond.code yX10_copy cX10_copy 3 none, Cond.methodLink RL 43 yX12_turn, Cond.instanceMethod yX12_turn, Cond.selects RX12 yX12_turn yX12_turn, Cond.code yX12_turn cX12_turn 5 (some .int), Cond.fieldLink RX12 287 "SpellTurnerModel" "nows" "I", Cond.fieldLink RX12 306 "SpellTurnerModel" "tolds" "I", Cond.methodLink RX12 297 yX12_readWord, Cond.instanceMethod yX12_readWord, Cond.selects RX12 yX12_readWord yX12_readWord, Cond.code yX12_readWord cX12_readWord 3 (some .boolean)]
def wsL_law_r30 : List Cond := [Cond.methodLink RX12 290 yX12_takeWord, Cond.instanceMethod yX12_takeWord, Cond.selects RX12 yX12_takeWord yX12_takeWord, Cond.code yX12_takeWord cX12_takeWord 5 none, Cond.fieldLink RX12 244 "SpellTurnerModel" "letters" "I", Cond.methodLink RX12 300 yX12_isStage, Cond.instanceMethod yX12_isStage, Cond.selects RX12 yX12_isStage yX12_isStage, Cond.code yX12_isStage cX12_isStage 2 (some .boolean), Cond.methodLink RX12 303 yX12_through, Cond.instanceMethod yX12_through, Cond.selects RX12 yX12_through yX12_through, Cond.code yX12_through cX12_through 9 none, Cond.fieldLink RX12 270 "SpellTurnerModel" "mades" "I", Cond.methodLink RX12 294 yX12_turnBy, Cond.instanceMethod yX12_turnBy, Cond.selects RX12 yX12_turnBy yX12_turnBy, Cond.code yX12_turnBy cX12_turnBy 6 none, Cond.fieldLink RX12 241 "SpellTurnerModel" "wayMany" "I", Cond.methodLink RX12 277 yX12_listedAs, Cond.instanceMethod yX12_listedAs, Cond.selects RX12 yX12_listedAs yX12_listedAs, Cond.code yX12_listedAs cX12_listedAs 3 (some .int), Cond.methodLink RX12 273 yX12_sameBytes]
def wsL_law_r31 : List Cond := [Cond.static yX12_sameBytes, Cond.code yX12_sameBytes cX12_sameBytes 7 (some .boolean), Cond.methodLink RX12 280 yX12_makeWays, Cond.instanceMethod yX12_makeWays, Cond.selects RX12 yX12_makeWays yX12_makeWays, Cond.code yX12_makeWays cX12_makeWays 4 none, Cond.methodLink RX12 247 yX12_isWordPart, Cond.instanceMethod yX12_isWordPart, Cond.selects RX12 yX12_isWordPart yX12_isWordPart, Cond.code yX12_isWordPart cX12_isWordPart 7 (some .boolean), Cond.methodLink RX12 250 yX12_part, Cond.instanceMethod yX12_part, Cond.selects RX12 yX12_part yX12_part, Cond.code yX12_part cX12_part 5 none, Cond.methodLink RX12 283 yX12_makeForm, Cond.instanceMethod yX12_makeForm, Cond.selects RX12 yX12_makeForm yX12_makeForm, Cond.code yX12_makeForm cX12_makeForm 10 none, Cond.fieldLink RX12 253 "SpellTurnerModel" "partLetters" "I", Cond.methodLink RX12 266 yX12_lawThrough, Cond.instanceMethod yX12_lawThrough, Cond.selects RX12 yX12_lawThrough yX12_lawThrough, Cond.code yX12_lawThrough cX12_lawThrough 8 none, Cond.fieldLink RX12 260 "SpellTurnerModel" "isUsed" "Z"]
def wsL_law_r32 : List Cond := [Cond.fieldLink RX12 263 "SpellTurnerModel" "lawAsked" "I", Cond.methodLink RX12 256 yX12_stands, Cond.instanceMethod yX12_stands, Cond.selects RX12 yX12_stands yX12_stands, Cond.code yX12_stands cX12_stands 6 (some .boolean), Cond.methodLink RL 44 yX11_form, Cond.instanceMethod yX11_form, Cond.selects RX11 yX11_form yX11_form, Cond.code yX11_form cX11_form 3 (some .int), Cond.methodLink RX11 176 yX10_letterAt, Cond.instanceMethod yX10_letterAt, Cond.selects RX10 yX10_letterAt yX10_letterAt, Cond.code yX10_letterAt cX10_letterAt 3 (some .int), Cond.methodLink RL 47 yX12_form, Cond.instanceMethod yX12_form, Cond.selects RX12 yX12_form yX12_form, Cond.code yX12_form cX12_form 3 (some .int), Cond.methodLink RL 48 yX11_partings, Cond.instanceMethod yX11_partings, Cond.selects RX11 yX11_partings yX11_partings, Cond.code yX11_partings cX11_partings 5 (some .int), Cond.fieldLink RX11 190 "SpellTurner$Partings" "count" "I", Cond.methodLink RX11 180 yX10_find, Cond.methodLink RX11 184 yX5_isKept]
def wsL_law_r33 : List Cond := [Cond.methodLink RX11 187 yX3_find, Cond.methodLink RL 51 yX12_partings, Cond.instanceMethod yX12_partings, Cond.selects RX12 yX12_partings yX12_partings, Cond.code yX12_partings cX12_partings 5 (some .int), Cond.fieldLink RX12 309 "SpellTurnerModel" "toldWayMany" "I", Cond.methodLink RL 52 yX11_parting, Cond.instanceMethod yX11_parting, Cond.selects RX11 yX11_parting yX11_parting, Cond.code yX11_parting cX11_parting 3 (some .int), Cond.fieldLink RX11 191 "SpellTurner$Partings" "sizes" "[I", Cond.methodLink RX11 194 yX3_lengthOf, Cond.instanceMethod yX3_lengthOf, Cond.selects RX3 yX3_lengthOf yX3_lengthOf, Cond.code yX3_lengthOf cX3_lengthOf 4 (some .int), Cond.methodLink RX3 51 yX3_pick, Cond.methodLink RL 55 yX12_parting, Cond.instanceMethod yX12_parting, Cond.selects RX12 yX12_parting yX12_parting, Cond.code yX12_parting cX12_parting 3 (some .int), Cond.methodLink RL 56 yX11_learn, Cond.instanceMethod yX11_learn, Cond.selects RX11 yX11_learn yX11_learn, Cond.code yX11_learn cX11_learn 3 (some .int)]
def wsL_law_r34 : List Cond := [Cond.fieldLink RX11 197 "SpellTurner$Book" "words" "LSpellTurner$WordRow;", Cond.methodLink RX11 200 yX10_isFull, Cond.methodLink RX11 204 yX10_add, Cond.methodLink RL 60 yX12_learn, Cond.instanceMethod yX12_learn, Cond.selects RX12 yX12_learn yX12_learn, Cond.code yX12_learn cX12_learn 2 (some .int), Cond.fieldLink RX12 312 "SpellTurnerModel" "words" "I", Cond.methodLink RL 61 yX11_word, Cond.instanceMethod yX11_word, Cond.selects RX11 yX11_word yX11_word, Cond.code yX11_word cX11_word 3 (some .int), Cond.methodLink RL 64 yX12_word, Cond.instanceMethod yX12_word, Cond.selects RX12 yX12_word yX12_word, Cond.code yX12_word cX12_word 3 (some .int), Cond.methodLink RL 65 yX11_back, Cond.instanceMethod yX11_back, Cond.selects RX11 yX11_back yX11_back, Cond.code yX11_back cX11_back 4 (some .int), Cond.methodLink RX11 211 yX0_fill, Cond.instanceMethod yX0_fill, Cond.selects RX0 yX0_fill yX0_fill, Cond.code yX0_fill cX0_fill 7 none]
def wsL_law_r35 : List Cond := [Cond.fieldLink RX0 38 "SpellTurner$WordRow" "count" "I", Cond.fieldLink RX0 42 "SpellTurner$WordRow" "letters" "[B", Cond.fieldLink RX0 46 "SpellTurner$WordRow" "width" "I", Cond.fieldLink RX0 49 "SpellTurner$WordRow" "lengths" "[I", Cond.methodLink RX0 52 yX10_add, Cond.methodLink RX0 56 yX0_formsAt, Cond.instanceMethod yX0_formsAt, Cond.selects RX0 yX0_formsAt yX0_formsAt, Cond.code yX0_formsAt cX0_formsAt 4 (some (.object "SpellTurner$WordRow")), Cond.methodLink RX0 60 yX9_turnForms, Cond.methodLink RX0 66 yX10_copy, Cond.methodLink RX11 215 yX0_formsAt, Cond.methodLink RL 68 yX12_back, Cond.instanceMethod yX12_back, Cond.selects RX12 yX12_back yX12_back, Cond.code yX12_back cX12_back 4 (some .int), Cond.fieldLink RX12 318 "SpellTurnerModel" "oldMany" "I", Cond.methodLink RX12 315 yX12_make, Cond.instanceMethod yX12_make, Cond.selects RX12 yX12_make yX12_make, Cond.code yX12_make cX12_make 6 none, Cond.methodLink RX12 321 yX12_hasForm, Cond.instanceMethod yX12_hasForm, Cond.selects RX12 yX12_hasForm yX12_hasForm]
def wsL_law_r36 : List Cond := [Cond.code yX12_hasForm cX12_hasForm 7 (some .boolean), Cond.methodLink RL 69 yX11_old, Cond.instanceMethod yX11_old, Cond.selects RX11 yX11_old yX11_old, Cond.code yX11_old cX11_old 2 (some .int), Cond.methodLink RL 72 yX12_old, Cond.instanceMethod yX12_old, Cond.selects RX12 yX12_old yX12_old, Cond.code yX12_old cX12_old 2 (some .int), Cond.methodLink RL 73 yX11_collisions, Cond.instanceMethod yX11_collisions, Cond.selects RX11 yX11_collisions yX11_collisions, Cond.code yX11_collisions cX11_collisions 5 (some .int), Cond.methodLink RX11 219 yX0_collide, Cond.instanceMethod yX0_collide, Cond.selects RX0 yX0_collide yX0_collide, Cond.code yX0_collide cX0_collide 7 (some .boolean), Cond.methodLink RX0 70 yX10_find, Cond.methodLink RX11 223 yX11_notePair, Cond.instanceMethod yX11_notePair, Cond.selects RX11 yX11_notePair yX11_notePair, Cond.code yX11_notePair cX11_notePair 2 none, Cond.methodLink RL 76 yX12_collisions, Cond.instanceMethod yX12_collisions]
def wsL_law_r37 : List Cond := [Cond.selects RX12 yX12_collisions yX12_collisions, Cond.code yX12_collisions cX12_collisions 5 (some .int), Cond.fieldLink RX12 325 "SpellTurnerModel" "pairMany" "I", Cond.methodLink RX12 328 yX12_collide, Cond.instanceMethod yX12_collide, Cond.selects RX12 yX12_collide yX12_collide, Cond.code yX12_collide cX12_collide 5 (some .boolean), Cond.methodLink RL 77 yX11_collision, Cond.instanceMethod yX11_collision, Cond.selects RX11 yX11_collision yX11_collision, Cond.code yX11_collision cX11_collision 2 (some .int), Cond.methodLink RL 80 yX12_collision, Cond.instanceMethod yX12_collision, Cond.selects RX12 yX12_collision yX12_collision, Cond.code yX12_collision cX12_collision 2 (some .int), Cond.methodLink RL 81 yX11_rhymes, Cond.instanceMethod yX11_rhymes, Cond.selects RX11 yX11_rhymes yX11_rhymes, Cond.code yX11_rhymes cX11_rhymes 5 (some .int), Cond.methodLink RX11 226 yX10_endsAlike, Cond.instanceMethod yX10_endsAlike, Cond.selects RX10 yX10_endsAlike yX10_endsAlike, Cond.code yX10_endsAlike cX10_endsAlike 6 (some .boolean), Cond.methodLink RX11 230 yX0_formsRhyme]
def wsL_law_r38 : List Cond := [Cond.instanceMethod yX0_formsRhyme, Cond.selects RX0 yX0_formsRhyme yX0_formsRhyme, Cond.code yX0_formsRhyme cX0_formsRhyme 8 (some .boolean), Cond.methodLink RX0 74 yX10_endsAlike, Cond.methodLink RL 84 yX12_rhymes, Cond.instanceMethod yX12_rhymes, Cond.selects RX12 yX12_rhymes yX12_rhymes, Cond.code yX12_rhymes cX12_rhymes 5 (some .int), Cond.methodLink RX12 331 yX12_rhyme, Cond.static yX12_rhyme, Cond.code yX12_rhyme cX12_rhyme 6 (some .boolean), Cond.methodLink RX12 334 yX12_rhymeAt, Cond.instanceMethod yX12_rhymeAt, Cond.selects RX12 yX12_rhymeAt yX12_rhymeAt, Cond.code yX12_rhymeAt cX12_rhymeAt 6 (some .boolean), Cond.methodLink RL 85 yX11_tell, Cond.instanceMethod yX11_tell, Cond.selects RX11 yX11_tell yX11_tell, Cond.code yX11_tell cX11_tell 5 (some .int), Cond.methodLink RX11 233 yX0_isSuch, Cond.instanceMethod yX0_isSuch, Cond.selects RX0 yX0_isSuch yX0_isSuch, Cond.code yX0_isSuch cX0_isSuch 5 (some .boolean), Cond.methodLink RL 88 yX12_tell]
def wsL_law_r39 : List Cond := [Cond.instanceMethod yX12_tell, Cond.selects RX12 yX12_tell yX12_tell, Cond.code yX12_tell cX12_tell 7 (some .int), Cond.methodLink RL 89 yX11_uses, Cond.instanceMethod yX11_uses, Cond.selects RX11 yX11_uses yX11_uses, Cond.code yX11_uses cX11_uses 6 (some .int), Cond.methodLink RX11 236 yX0_usesLaw, Cond.instanceMethod yX0_usesLaw, Cond.selects RX0 yX0_usesLaw yX0_usesLaw, Cond.code yX0_usesLaw cX0_usesLaw 4 (some .boolean), Cond.methodLink RL 92 yX12_uses, Cond.instanceMethod yX12_uses, Cond.selects RX12 yX12_uses yX12_uses, Cond.code yX12_uses cX12_uses 6 (some .int), Cond.methodLink RL 93 yX11_write, Cond.instanceMethod yX11_write, Cond.selects RX11 yX11_write yX11_write, Cond.code yX11_write cX11_write 5 (some .int), Cond.fieldLink RX11 251 "SpellTurner$TextWords" "isName" "Z", Cond.fieldLink RX11 258 "SpellTurner$TextWords" "length" "I", Cond.fieldLink RX11 262 "SpellTurner$TextWords" "start" "I", Cond.methodLink RX11 239 yX7_hasZero, Cond.instanceMethod yX7_hasZero]
def wsL_law_r40 : List Cond := [Cond.selects RX7 yX7_hasZero yX7_hasZero, Cond.code yX7_hasZero cX7_hasZero 2 (some .boolean), Cond.methodLink RX7 25 yX7_occurrences, Cond.instanceMethod yX7_occurrences, Cond.selects RX7 yX7_occurrences yX7_occurrences, Cond.code yX7_occurrences cX7_occurrences 5 (some .int), Cond.methodLink RX11 242 yX8_begin, Cond.instanceMethod yX8_begin, Cond.selects RX8 yX8_begin yX8_begin, Cond.code yX8_begin cX8_begin 3 none, Cond.methodLink RX8 38 Lib.Math.min.name, Cond.methodLink RX11 246 yX6_begin, Cond.instanceMethod yX6_begin, Cond.selects RX6 yX6_begin yX6_begin, Cond.code yX6_begin cX6_begin 1 none, Cond.methodLink RX6 42 yJ7_fill_53178, Cond.static yJ7_fill_53178, Cond.code yJ7_fill_53178 cJ7_fill_53178 4 none, Cond.methodLink RX11 248 yX8_next, Cond.instanceMethod yX8_next, Cond.selects RX8 yX8_next yX8_next, Cond.code yX8_next cX8_next 2 (some .boolean), Cond.methodLink RX8 44 yX8_isLetter, Cond.static yX8_isLetter]
def wsL_law_r41 : List Cond := [Cond.code yX8_isLetter cX8_isLetter 1 (some .boolean), Cond.methodLink RX8 56 yX10_isSmall, Cond.methodLink RX8 51 yX10_isCapital, Cond.static yX10_isCapital, Cond.code yX10_isCapital cX10_isCapital 1 (some .boolean), Cond.methodLink RX8 48 yX8_takeWord, Cond.instanceMethod yX8_takeWord, Cond.selects RX8 yX8_takeWord yX8_takeWord, Cond.code yX8_takeWord cX8_takeWord 1 none, Cond.methodLink RX11 255 yX6_leaveName, Cond.instanceMethod yX6_leaveName, Cond.selects RX6 yX6_leaveName yX6_leaveName, Cond.code yX6_leaveName cX6_leaveName 1 none, Cond.methodLink RX11 259 yX6_leaveLost, Cond.instanceMethod yX6_leaveLost, Cond.selects RX6 yX6_leaveLost yX6_leaveLost, Cond.code yX6_leaveLost cX6_leaveLost 1 none, Cond.methodLink RX11 265 yX6_put, Cond.instanceMethod yX6_put, Cond.selects RX6 yX6_put yX6_put, Cond.code yX6_put cX6_put 3 none, Cond.fieldLink RX6 48 "SpellTurner$WordRow" "count" "I", Cond.fieldLink RX6 56 "SpellTurner$WordRow" "lengths" "[I", Cond.fieldLink RX6 59 "SpellTurner$TextWords" "length" "I"]
def wsL_law_r42 : List Cond := [Cond.fieldLink RX6 64 "SpellTurner$TextWords" "text" "[B", Cond.fieldLink RX6 67 "SpellTurner$TextWords" "start" "I", Cond.fieldLink RX6 78 "SpellTurner$WordRow" "letters" "[B", Cond.methodLink RX6 53 yX6_leaveLost, Cond.methodLink RX6 70 yX10_standsIn, Cond.methodLink RX6 74 yX6_append, Cond.instanceMethod yX6_append, Cond.selects RX6 yX6_append yX6_append, Cond.code yX6_append cX6_append 4 none, Cond.methodLink RX6 81 arraycopyName, Cond.methodLink RX11 269 yX6_finish, Cond.instanceMethod yX6_finish, Cond.selects RX6 yX6_finish yX6_finish, Cond.code yX6_finish cX6_finish 5 (some .int), Cond.methodLink RL 96 yX12_write, Cond.instanceMethod yX12_write, Cond.selects RX12 yX12_write yX12_write, Cond.code yX12_write cX12_write 7 (some .int), Cond.fieldLink RX12 337 "SpellTurnerModel" "drafted" "I", Cond.fieldLink RX12 361 "SpellTurnerModel" "texted" "I", Cond.fieldLink RX12 364 "SpellTurnerModel" "hasText" "Z", Cond.methodLink RX12 348 yX12_hasNought, Cond.instanceMethod yX12_hasNought, Cond.selects RX12 yX12_hasNought yX12_hasNought]
def wsL_law_r43 : List Cond := [Cond.code yX12_hasNought cX12_hasNought 3 (some .boolean), Cond.methodLink RX12 351 yX12_quoted, Cond.instanceMethod yX12_quoted, Cond.selects RX12 yX12_quoted yX12_quoted, Cond.code yX12_quoted cX12_quoted 4 (some .int), Cond.methodLink RX12 344 yX12_write1, Cond.instanceMethod yX12_write1, Cond.selects RX12 yX12_write1 yX12_write1, Cond.code yX12_write1 cX12_write1 5 (some .boolean), Cond.methodLink RX12 354 yX12_isLetter, Cond.static yX12_isLetter, Cond.code yX12_isLetter cX12_isLetter 1 (some .boolean), Cond.methodLink RX12 357 yX12_writeWord, Cond.instanceMethod yX12_writeWord, Cond.selects RX12 yX12_writeWord yX12_writeWord, Cond.code yX12_writeWord cX12_writeWord 5 (some .boolean), Cond.methodLink RX12 340 yX12_isName, Cond.instanceMethod yX12_isName, Cond.selects RX12 yX12_isName yX12_isName, Cond.code yX12_isName cX12_isName 4 (some .boolean), Cond.methodLink RL 97 yX11_written, Cond.instanceMethod yX11_written, Cond.selects RX11 yX11_written yX11_written, Cond.code yX11_written cX11_written 2 (some .int)]
def wsL_law_r44 : List Cond := [Cond.methodLink RX11 273 yX6_byteAt, Cond.instanceMethod yX6_byteAt, Cond.selects RX6 yX6_byteAt yX6_byteAt, Cond.code yX6_byteAt cX6_byteAt 2 (some .int), Cond.methodLink RL 100 yX12_written, Cond.instanceMethod yX12_written, Cond.selects RX12 yX12_written yX12_written, Cond.code yX12_written cX12_written 2 (some .int), Cond.methodLink RL 101 yX11_counted, Cond.instanceMethod yX11_counted, Cond.selects RX11 yX11_counted yX11_counted, Cond.code yX11_counted cX11_counted 2 (some .int), Cond.methodLink RX11 277 yX6_tallyOf, Cond.instanceMethod yX6_tallyOf, Cond.selects RX6 yX6_tallyOf yX6_tallyOf, Cond.code yX6_tallyOf cX6_tallyOf 2 (some .int), Cond.methodLink RL 104 yX12_counted, Cond.instanceMethod yX12_counted, Cond.selects RX12 yX12_counted yX12_counted, Cond.code yX12_counted cX12_counted 2 (some .int), Cond.methodLink RL 105 yX11_mixed, Cond.instanceMethod yX11_mixed, Cond.selects RX11 yX11_mixed yX11_mixed, Cond.code yX11_mixed cX11_mixed 5 (some .int)]
def wsL_law_r45 : List Cond := [Cond.methodLink RX11 280 yX7_lines, Cond.instanceMethod yX7_lines, Cond.selects RX7 yX7_lines yX7_lines, Cond.code yX7_lines cX7_lines 2 (some .int), Cond.methodLink RX11 283 yX2_begin, Cond.instanceMethod yX2_begin, Cond.selects RX2 yX2_begin yX2_begin, Cond.code yX2_begin cX2_begin 3 none, Cond.methodLink RX2 31 Lib.Math.min.name, Cond.methodLink RX2 37 yJ7_fill_53178, Cond.methodLink RX11 285 yX11_chargeWord, Cond.instanceMethod yX11_chargeWord, Cond.selects RX11 yX11_chargeWord yX11_chargeWord, Cond.code yX11_chargeWord cX11_chargeWord 2 none, Cond.fieldLink RX11 298 "SpellTurner$TextWords" "lineNumber" "I", Cond.methodLink RX11 294 yX0_hasForm, Cond.instanceMethod yX0_hasForm, Cond.selects RX0 yX0_hasForm yX0_hasForm, Cond.code yX0_hasForm cX0_hasForm 6 (some .boolean), Cond.methodLink RX11 301 yX2_charge, Cond.instanceMethod yX2_charge, Cond.selects RX2 yX2_charge yX2_charge, Cond.code yX2_charge cX2_charge 3 none, Cond.methodLink RX11 288 yX2_settle]
def wsL_law_r46 : List Cond := [Cond.instanceMethod yX2_settle, Cond.selects RX2 yX2_settle yX2_settle, Cond.code yX2_settle cX2_settle 5 (some .int), Cond.methodLink RX2 43 yX2_cheapest, Cond.instanceMethod yX2_cheapest, Cond.selects RX2 yX2_cheapest yX2_cheapest, Cond.code yX2_cheapest cX2_cheapest 6 (some .int), Cond.methodLink RX2 47 yX2_cost, Cond.instanceMethod yX2_cost, Cond.selects RX2 yX2_cost yX2_cost, Cond.code yX2_cost cX2_cost 6 (some .int), Cond.methodLink RL 108 yX12_mixed, Cond.instanceMethod yX12_mixed, Cond.selects RX12 yX12_mixed yX12_mixed, Cond.code yX12_mixed cX12_mixed 11 (some .int), Cond.fieldLink RX12 374 "SpellTurnerModel" "lines" "I", Cond.methodLink RX12 367 yX12_isKnown, Cond.instanceMethod yX12_isKnown, Cond.selects RX12 yX12_isKnown yX12_isKnown, Cond.code yX12_isKnown cX12_isKnown 5 (some .boolean), Cond.methodLink RX12 370 yX12_onward, Cond.instanceMethod yX12_onward, Cond.selects RX12 yX12_onward yX12_onward, Cond.code yX12_onward cX12_onward 7 (some .int)]
def wsL_law_r47 : List Cond := [Cond.constant RX12 379 (2147483647), Cond.methodLink RL 109 yX11_line, Cond.instanceMethod yX11_line, Cond.selects RX11 yX11_line yX11_line, Cond.code yX11_line cX11_line 2 (some .int), Cond.methodLink RX11 291 yX2_stageOf, Cond.instanceMethod yX2_stageOf, Cond.selects RX2 yX2_stageOf yX2_stageOf, Cond.code yX2_stageOf cX2_stageOf 2 (some .int), Cond.methodLink RL 112 yX12_line, Cond.instanceMethod yX12_line, Cond.selects RX12 yX12_line yX12_line, Cond.code yX12_line cX12_line 2 (some .int), Cond.methodLink RL 113 yX11_count, Cond.instanceMethod yX11_count, Cond.selects RX11 yX11_count yX11_count, Cond.code yX11_count cX11_count 2 (some .int), Cond.methodLink RL 116 yX12_count, Cond.instanceMethod yX12_count, Cond.selects RX12 yX12_count yX12_count, Cond.code yX12_count cX12_count 2 (some .int)]
def wsL_law : List Cond := (wsL_law_r1 ++ (wsL_law_r2 ++ (wsL_law_r3 ++ (wsL_law_r4 ++ (wsL_law_r5 ++ (wsL_law_r6 ++ (wsL_law_r7 ++ (wsL_law_r8 ++ (wsL_law_r9 ++ (wsL_law_r10 ++ (wsL_law_r11 ++ (wsL_law_r12 ++ (wsL_law_r13 ++ (wsL_law_r14 ++ (wsL_law_r15 ++ (wsL_law_r16 ++ (wsL_law_r17 ++ (wsL_law_r18 ++ (wsL_law_r19 ++ (wsL_law_r20 ++ (wsL_law_r21 ++ (wsL_law_r22 ++ (wsL_law_r23 ++ (wsL_law_r24 ++ (wsL_law_r25 ++ (wsL_law_r26 ++ (wsL_law_r27 ++ (wsL_law_r28 ++ (wsL_law_r29 ++ (wsL_law_r30 ++ (wsL_law_r31 ++ (wsL_law_r32 ++ (wsL_law_r33 ++ (wsL_law_r34 ++ (wsL_law_r35 ++ (wsL_law_r36 ++ (wsL_law_r37 ++ (wsL_law_r38 ++ (wsL_law_r39 ++ (wsL_law_r40 ++ (wsL_law_r41 ++ (wsL_law_r42 ++ (wsL_law_r43 ++ (wsL_law_r44 ++ (wsL_law_r45 ++ (wsL_law_r46 ++ wsL_law_r47)))))))))))))))))))))))))))))))))))))))))))))) ++ wsX110 ++ wsX120 ++ wsX70 ++ wsX50 ++ wsX40 ++ wsX90 ++ wsX100 ++ wsX30 ++ wsX00 ++ wsX80 ++ wsX60 ++ wsX20 ++ wsX10 ++ ([] : List Cond)
abbrev vwCl : List vw_C := [(RX0, TX0, 6), (RX1, TX1, 6), (RX2, TX2, 6), (RX3, TX3, 7), (RX4, TX4, 9), (RX5, TX5, 11), (RX6, TX6, 9), (RX7, TX7, 2), (RX8, TX8, 8), (RX9, TX9, 8), (RX10, TX10, 4), (RX11, TX11, 17), (RX12, TX12, 71)]
end
section
set_option maxRecDepth 20000 in
theorem ggX0_init_X10_init : GoodIn wsX0_init wsX10_init := goodIn_r _ [17, 18, 2, 3, 19, 20, 21, 22, 11, 23, 24, 25, 26, 27] (by decide +kernel) (by decide +kernel)
set_option maxRecDepth 20000 in
theorem gX0_init_X10_init : GoodIn wsX0_init (wsX10_init) := ggX0_init_X10_init
theorem dX0_init_0 : decode cX0_init 0 = .ok (.aload_n 0, 1) := by decide +kernel
theorem dX0_init_1 : decode cX0_init 1 = .ok (.invokespecial 3, 3) := by decide +kernel
theorem dX0_init_4 : decode cX0_init 4 = .ok (.aload_n 0, 1) := by decide +kernel
theorem dX0_init_5 : decode cX0_init 5 = .ok (.new 9, 3) := by decide +kernel
theorem dX0_init_8 : decode cX0_init 8 = .ok (.dup, 1) := by decide +kernel
theorem dX0_init_9 : decode cX0_init 9 = .ok (.bipush 100, 2) := by decide +kernel
theorem dX0_init_11 : decode cX0_init 11 = .ok (.bipush 24, 2) := by decide +kernel
theorem dX0_init_13 : decode cX0_init 13 = .ok (.invokespecial 11, 3) := by decide +kernel
theorem dX0_init_16 : decode cX0_init 16 = .ok (.putfield 14, 3) := by decide +kernel
theorem dX0_init_19 : decode cX0_init 19 = .ok (.aload_n 0, 1) := by decide +kernel
theorem dX0_init_20 : decode cX0_init 20 = .ok (.sipush 700, 3) := by decide +kernel
theorem dX0_init_23 : decode cX0_init 23 = .ok (.anewarray 9, 3) := by decide +kernel
theorem dX0_init_26 : decode cX0_init 26 = .ok (.putfield 20, 3) := by decide +kernel
theorem dX0_init_29 : decode cX0_init 29 = .ok (.aload_n 0, 1) := by decide +kernel
theorem dX0_init_30 : decode cX0_init 30 = .ok (.sipush 600, 3) := by decide +kernel
theorem dX0_init_33 : decode cX0_init 33 = .ok (.newarray .long, 2) := by decide +kernel
theorem dX0_init_35 : decode cX0_init 35 = .ok (.putfield 24, 3) := by decide +kernel
theorem dX0_init_38 : decode cX0_init 38 = .ok (.aload_n 0, 1) := by decide +kernel
theorem dX0_init_39 : decode cX0_init 39 = .ok (.bipush 7, 2) := by decide +kernel
theorem dX0_init_41 : decode cX0_init 41 = .ok (.newarray .int, 2) := by decide +kernel
theorem dX0_init_43 : decode cX0_init 43 = .ok (.putfield 28, 3) := by decide +kernel
theorem dX0_init_46 : decode cX0_init 46 = .ok (.aload_n 0, 1) := by decide +kernel
theorem dX0_init_47 : decode cX0_init 47 = .ok (.new 9, 3) := by decide +kernel
theorem dX0_init_50 : decode cX0_init 50 = .ok (.dup, 1) := by decide +kernel
theorem dX0_init_51 : decode cX0_init 51 = .ok (.bipush 12, 2) := by decide +kernel
theorem dX0_init_53 : decode cX0_init 53 = .ok (.bipush 24, 2) := by decide +kernel
theorem dX0_init_55 : decode cX0_init 55 = .ok (.invokespecial 11, 3) := by decide +kernel
theorem dX0_init_58 : decode cX0_init 58 = .ok (.putfield 32, 3) := by decide +kernel
theorem dX0_init_61 : decode cX0_init 61 = .ok (.aload_n 0, 1) := by decide +kernel
theorem dX0_init_62 : decode cX0_init 62 = .ok (.new 9, 3) := by decide +kernel
theorem dX0_init_65 : decode cX0_init 65 = .ok (.dup, 1) := by decide +kernel
theorem dX0_init_66 : decode cX0_init 66 = .ok (.iconst 0, 1) := by decide +kernel
theorem dX0_init_67 : decode cX0_init 67 = .ok (.iconst 0, 1) := by decide +kernel
theorem dX0_init_68 : decode cX0_init 68 = .ok (.invokespecial 11, 3) := by decide +kernel
theorem dX0_init_71 : decode cX0_init 71 = .ok (.putfield 35, 3) := by decide +kernel
theorem dX0_init_74 : decode cX0_init 74 = .ok (.return_, 1) := by decide +kernel
theorem dX0_fill_0 : decode cX0_fill 0 = .ok (.iconst 0, 1) := by decide +kernel
theorem dX0_fill_1 : decode cX0_fill 1 = .ok (.istore 4, 2) := by decide +kernel
theorem dX0_fill_3 : decode cX0_fill 3 = .ok (.iload 4, 2) := by decide +kernel
theorem dX0_fill_5 : decode cX0_fill 5 = .ok (.iload_n 1, 1) := by decide +kernel
theorem dX0_fill_6 : decode cX0_fill 6 = .ok (.if_icmp .gt 188, 3) := by decide +kernel
theorem dX0_fill_9 : decode cX0_fill 9 = .ok (.iload 4, 2) := by decide +kernel
theorem dX0_fill_11 : decode cX0_fill 11 = .ok (.bipush 7, 2) := by decide +kernel
theorem dX0_fill_13 : decode cX0_fill 13 = .ok (.if_icmp .ge 181, 3) := by decide +kernel
theorem dX0_fill_16 : decode cX0_fill 16 = .ok (.aload_n 0, 1) := by decide +kernel
theorem dX0_fill_17 : decode cX0_fill 17 = .ok (.getfield 28, 3) := by decide +kernel
theorem dX0_fill_20 : decode cX0_fill 20 = .ok (.iload 4, 2) := by decide +kernel
theorem dX0_fill_22 : decode cX0_fill 22 = .ok (.iaload, 1) := by decide +kernel
theorem dX0_fill_23 : decode cX0_fill 23 = .ok (.istore 5, 2) := by decide +kernel
theorem dX0_fill_25 : decode cX0_fill 25 = .ok (.iload 5, 2) := by decide +kernel
theorem dX0_fill_27 : decode cX0_fill 27 = .ok (.aload_n 0, 1) := by decide +kernel
theorem dX0_fill_28 : decode cX0_fill 28 = .ok (.getfield 14, 3) := by decide +kernel
theorem dX0_fill_31 : decode cX0_fill 31 = .ok (.getfield 38, 3) := by decide +kernel
theorem dX0_fill_34 : decode cX0_fill 34 = .ok (.if_icmp .ge 140, 3) := by decide +kernel
theorem dX0_fill_174 : decode cX0_fill 174 = .ok (.aload_n 0, 1) := by decide +kernel
theorem dX0_fill_175 : decode cX0_fill 175 = .ok (.getfield 28, 3) := by decide +kernel
theorem dX0_fill_178 : decode cX0_fill 178 = .ok (.iload 4, 2) := by decide +kernel
theorem dX0_fill_180 : decode cX0_fill 180 = .ok (.aload_n 0, 1) := by decide +kernel
theorem dX0_fill_181 : decode cX0_fill 181 = .ok (.getfield 14, 3) := by decide +kernel
theorem dX0_fill_184 : decode cX0_fill 184 = .ok (.getfield 38, 3) := by decide +kernel
theorem dX0_fill_187 : decode cX0_fill 187 = .ok (.iastore, 1) := by decide +kernel
theorem dX0_fill_188 : decode cX0_fill 188 = .ok (.iinc 4 1, 3) := by decide +kernel
theorem dX0_fill_191 : decode cX0_fill 191 = .ok (.goto (-188), 3) := by decide +kernel
theorem dX0_fill_194 : decode cX0_fill 194 = .ok (.return_, 1) := by decide +kernel
theorem dX2_init_0 : decode cX2_init 0 = .ok (.aload_n 0, 1) := by decide +kernel
theorem dX2_init_1 : decode cX2_init 1 = .ok (.invokespecial 3, 3) := by decide +kernel
theorem dX2_init_4 : decode cX2_init 4 = .ok (.aload_n 0, 1) := by decide +kernel
theorem dX2_init_5 : decode cX2_init 5 = .ok (.sipush 280, 3) := by decide +kernel
theorem dX2_init_8 : decode cX2_init 8 = .ok (.newarray .int, 2) := by decide +kernel
theorem dX2_init_10 : decode cX2_init 10 = .ok (.putfield 9, 3) := by decide +kernel
theorem dX2_init_13 : decode cX2_init 13 = .ok (.aload_n 0, 1) := by decide +kernel
theorem dX2_init_14 : decode cX2_init 14 = .ok (.sipush 280, 3) := by decide +kernel
theorem dX2_init_17 : decode cX2_init 17 = .ok (.newarray .int, 2) := by decide +kernel
theorem dX2_init_19 : decode cX2_init 19 = .ok (.putfield 15, 3) := by decide +kernel
theorem dX2_init_22 : decode cX2_init 22 = .ok (.aload_n 0, 1) := by decide +kernel
theorem dX2_init_23 : decode cX2_init 23 = .ok (.bipush 40, 2) := by decide +kernel
theorem dX2_init_25 : decode cX2_init 25 = .ok (.newarray .int, 2) := by decide +kernel
theorem dX2_init_27 : decode cX2_init 27 = .ok (.putfield 18, 3) := by decide +kernel
theorem dX2_init_30 : decode cX2_init 30 = .ok (.aload_n 0, 1) := by decide +kernel
theorem dX2_init_31 : decode cX2_init 31 = .ok (.iconst 0, 1) := by decide +kernel
theorem dX2_init_32 : decode cX2_init 32 = .ok (.putfield 21, 3) := by decide +kernel
theorem dX2_init_35 : decode cX2_init 35 = .ok (.aload_n 0, 1) := by decide +kernel
theorem dX2_init_36 : decode cX2_init 36 = .ok (.iconst 0, 1) := by decide +kernel
theorem dX2_init_37 : decode cX2_init 37 = .ok (.putfield 25, 3) := by decide +kernel
theorem dX2_init_40 : decode cX2_init 40 = .ok (.aload_n 0, 1) := by decide +kernel
theorem dX2_init_41 : decode cX2_init 41 = .ok (.iconst 0, 1) := by decide +kernel
theorem dX2_init_42 : decode cX2_init 42 = .ok (.putfield 28, 3) := by decide +kernel
theorem dX2_init_45 : decode cX2_init 45 = .ok (.return_, 1) := by decide +kernel
set_option maxRecDepth 20000 in
theorem ggX2_begin_J7_fill_53178 : GoodIn wsX2_begin wsJ7_fill_53178 := goodIn_r _ [11] (by decide +kernel) (by decide +kernel)
set_option maxRecDepth 20000 in
theorem gX2_begin_J7_fill_53178 : GoodIn wsX2_begin (va_wsS RX2 37 yJ7_fill_53178 wsJ7_fill_53178) := goodIn_app (goodIn_of _ (by decide +kernel)) ggX2_begin_J7_fill_53178
theorem dX2_begin_0 : decode cX2_begin 0 = .ok (.aload_n 0, 1) := by decide +kernel
theorem dX2_begin_1 : decode cX2_begin 1 = .ok (.iload_n 1, 1) := by decide +kernel
theorem dX2_begin_2 : decode cX2_begin 2 = .ok (.bipush 40, 2) := by decide +kernel
theorem dX2_begin_4 : decode cX2_begin 4 = .ok (.invokestatic 31, 3) := by decide +kernel
theorem dX2_begin_7 : decode cX2_begin 7 = .ok (.putfield 25, 3) := by decide +kernel
theorem dX2_begin_10 : decode cX2_begin 10 = .ok (.aload_n 0, 1) := by decide +kernel
theorem dX2_begin_11 : decode cX2_begin 11 = .ok (.iload_n 2, 1) := by decide +kernel
theorem dX2_begin_12 : decode cX2_begin 12 = .ok (.bipush 7, 2) := by decide +kernel
theorem dX2_begin_14 : decode cX2_begin 14 = .ok (.invokestatic 31, 3) := by decide +kernel
theorem dX2_begin_17 : decode cX2_begin 17 = .ok (.putfield 28, 3) := by decide +kernel
theorem dX2_begin_20 : decode cX2_begin 20 = .ok (.aload_n 0, 1) := by decide +kernel
theorem dX2_begin_21 : decode cX2_begin 21 = .ok (.getfield 9, 3) := by decide +kernel
theorem dX2_begin_24 : decode cX2_begin 24 = .ok (.iconst 0, 1) := by decide +kernel
theorem dX2_begin_25 : decode cX2_begin 25 = .ok (.invokestatic 37, 3) := by decide +kernel
theorem dX2_begin_28 : decode cX2_begin 28 = .ok (.return_, 1) := by decide +kernel
set_option maxRecDepth 20000 in
theorem ggX2_settle_X2_cheapest : GoodIn wsX2_settle wsX2_cheapest := goodIn_r _ [11, 2, 12, 13, 14, 10, 15, 3, 16, 17, 18, 19, 20, 21] (by decide +kernel) (by decide +kernel)
set_option maxRecDepth 20000 in
theorem gX2_settle_X2_cheapest : GoodIn wsX2_settle (wsV RX2 43 RX2 yX2_cheapest wsX2_cheapest) := goodIn_app (goodIn_of _ (by decide +kernel)) ggX2_settle_X2_cheapest
set_option maxRecDepth 20000 in
theorem ggX2_settle_X2_cost : GoodIn wsX2_settle wsX2_cost := goodIn_r _ [15, 3, 16, 17, 18, 19, 20, 21] (by decide +kernel) (by decide +kernel)
set_option maxRecDepth 20000 in
theorem gX2_settle_X2_cost : GoodIn wsX2_settle (wsV RX2 47 RX2 yX2_cost wsX2_cost) := goodIn_app (goodIn_of _ (by decide +kernel)) ggX2_settle_X2_cost
theorem dX2_settle_0 : decode cX2_settle 0 = .ok (.aload_n 0, 1) := by decide +kernel
theorem dX2_settle_1 : decode cX2_settle 1 = .ok (.getfield 25, 3) := by decide +kernel
theorem dX2_settle_4 : decode cX2_settle 4 = .ok (.iconst 1, 1) := by decide +kernel
theorem dX2_settle_5 : decode cX2_settle 5 = .ok (.isub, 1) := by decide +kernel
theorem dX2_settle_6 : decode cX2_settle 6 = .ok (.istore_n 2, 1) := by decide +kernel
theorem dX2_settle_7 : decode cX2_settle 7 = .ok (.iload_n 2, 1) := by decide +kernel
theorem dX2_settle_8 : decode cX2_settle 8 = .ok (.ifCond .lt 84, 3) := by decide +kernel
theorem dX2_settle_11 : decode cX2_settle 11 = .ok (.iconst 0, 1) := by decide +kernel
theorem dX2_settle_12 : decode cX2_settle 12 = .ok (.istore_n 3, 1) := by decide +kernel
theorem dX2_settle_13 : decode cX2_settle 13 = .ok (.iload_n 3, 1) := by decide +kernel
theorem dX2_settle_14 : decode cX2_settle 14 = .ok (.aload_n 0, 1) := by decide +kernel
theorem dX2_settle_15 : decode cX2_settle 15 = .ok (.getfield 28, 3) := by decide +kernel
theorem dX2_settle_18 : decode cX2_settle 18 = .ok (.if_icmp .ge 68, 3) := by decide +kernel
theorem dX2_settle_21 : decode cX2_settle 21 = .ok (.iload_n 2, 1) := by decide +kernel
theorem dX2_settle_22 : decode cX2_settle 22 = .ok (.iconst 1, 1) := by decide +kernel
theorem dX2_settle_23 : decode cX2_settle 23 = .ok (.iadd, 1) := by decide +kernel
theorem dX2_settle_24 : decode cX2_settle 24 = .ok (.aload_n 0, 1) := by decide +kernel
theorem dX2_settle_25 : decode cX2_settle 25 = .ok (.getfield 25, 3) := by decide +kernel
theorem dX2_settle_28 : decode cX2_settle 28 = .ok (.if_icmp .ge 24, 3) := by decide +kernel
theorem dX2_settle_52 : decode cX2_settle 52 = .ok (.iconst 0, 1) := by decide +kernel
theorem dX2_settle_53 : decode cX2_settle 53 = .ok (.istore 4, 2) := by decide +kernel
theorem dX2_settle_55 : decode cX2_settle 55 = .ok (.aload_n 0, 1) := by decide +kernel
theorem dX2_settle_56 : decode cX2_settle 56 = .ok (.getfield 15, 3) := by decide +kernel
theorem dX2_settle_59 : decode cX2_settle 59 = .ok (.iload_n 2, 1) := by decide +kernel
theorem dX2_settle_60 : decode cX2_settle 60 = .ok (.bipush 7, 2) := by decide +kernel
theorem dX2_settle_62 : decode cX2_settle 62 = .ok (.imul, 1) := by decide +kernel
theorem dX2_settle_63 : decode cX2_settle 63 = .ok (.iload_n 3, 1) := by decide +kernel
theorem dX2_settle_64 : decode cX2_settle 64 = .ok (.iadd, 1) := by decide +kernel
theorem dX2_settle_65 : decode cX2_settle 65 = .ok (.aload_n 0, 1) := by decide +kernel
theorem dX2_settle_66 : decode cX2_settle 66 = .ok (.getfield 9, 3) := by decide +kernel
theorem dX2_settle_69 : decode cX2_settle 69 = .ok (.iload_n 2, 1) := by decide +kernel
theorem dX2_settle_70 : decode cX2_settle 70 = .ok (.bipush 7, 2) := by decide +kernel
theorem dX2_settle_72 : decode cX2_settle 72 = .ok (.imul, 1) := by decide +kernel
theorem dX2_settle_73 : decode cX2_settle 73 = .ok (.iload_n 3, 1) := by decide +kernel
theorem dX2_settle_74 : decode cX2_settle 74 = .ok (.iadd, 1) := by decide +kernel
theorem dX2_settle_75 : decode cX2_settle 75 = .ok (.iaload, 1) := by decide +kernel
theorem dX2_settle_76 : decode cX2_settle 76 = .ok (.iload 4, 2) := by decide +kernel
theorem dX2_settle_78 : decode cX2_settle 78 = .ok (.iadd, 1) := by decide +kernel
theorem dX2_settle_79 : decode cX2_settle 79 = .ok (.iastore, 1) := by decide +kernel
theorem dX2_settle_80 : decode cX2_settle 80 = .ok (.iinc 3 1, 3) := by decide +kernel
theorem dX2_settle_83 : decode cX2_settle 83 = .ok (.goto (-70), 3) := by decide +kernel
theorem dX2_settle_86 : decode cX2_settle 86 = .ok (.iinc 2 (-1), 3) := by decide +kernel
theorem dX2_settle_89 : decode cX2_settle 89 = .ok (.goto (-82), 3) := by decide +kernel
theorem dX2_settle_92 : decode cX2_settle 92 = .ok (.iconst (-1), 1) := by decide +kernel
theorem dX2_settle_93 : decode cX2_settle 93 = .ok (.istore_n 2, 1) := by decide +kernel
theorem dX2_settle_94 : decode cX2_settle 94 = .ok (.iconst 0, 1) := by decide +kernel
theorem dX2_settle_95 : decode cX2_settle 95 = .ok (.istore_n 3, 1) := by decide +kernel
theorem dX2_settle_96 : decode cX2_settle 96 = .ok (.iload_n 3, 1) := by decide +kernel
theorem dX2_settle_97 : decode cX2_settle 97 = .ok (.aload_n 0, 1) := by decide +kernel
theorem dX2_settle_98 : decode cX2_settle 98 = .ok (.getfield 25, 3) := by decide +kernel
theorem dX2_settle_101 : decode cX2_settle 101 = .ok (.if_icmp .ge 24, 3) := by decide +kernel
theorem dX2_settle_104 : decode cX2_settle 104 = .ok (.aload_n 0, 1) := by decide +kernel
theorem dX2_settle_105 : decode cX2_settle 105 = .ok (.iload_n 3, 1) := by decide +kernel
theorem dX2_settle_106 : decode cX2_settle 106 = .ok (.iload_n 2, 1) := by decide +kernel
theorem dX2_settle_107 : decode cX2_settle 107 = .ok (.iload_n 1, 1) := by decide +kernel
theorem dX2_settle_108 : decode cX2_settle 108 = .ok (.invokevirtual 43, 3) := by decide +kernel
theorem dX2_settle_111 : decode cX2_settle 111 = .ok (.istore_n 2, 1) := by decide +kernel
theorem dX2_settle_112 : decode cX2_settle 112 = .ok (.aload_n 0, 1) := by decide +kernel
theorem dX2_settle_113 : decode cX2_settle 113 = .ok (.getfield 18, 3) := by decide +kernel
theorem dX2_settle_116 : decode cX2_settle 116 = .ok (.iload_n 3, 1) := by decide +kernel
theorem dX2_settle_117 : decode cX2_settle 117 = .ok (.iload_n 2, 1) := by decide +kernel
theorem dX2_settle_118 : decode cX2_settle 118 = .ok (.iastore, 1) := by decide +kernel
theorem dX2_settle_119 : decode cX2_settle 119 = .ok (.iinc 3 1, 3) := by decide +kernel
theorem dX2_settle_122 : decode cX2_settle 122 = .ok (.goto (-26), 3) := by decide +kernel
theorem dX2_settle_125 : decode cX2_settle 125 = .ok (.aload_n 0, 1) := by decide +kernel
theorem dX2_settle_126 : decode cX2_settle 126 = .ok (.aload_n 0, 1) := by decide +kernel
theorem dX2_settle_127 : decode cX2_settle 127 = .ok (.getfield 25, 3) := by decide +kernel
theorem dX2_settle_130 : decode cX2_settle 130 = .ok (.putfield 21, 3) := by decide +kernel
theorem dX2_settle_133 : decode cX2_settle 133 = .ok (.aload_n 0, 1) := by decide +kernel
theorem dX2_settle_134 : decode cX2_settle 134 = .ok (.iconst 0, 1) := by decide +kernel
theorem dX2_settle_135 : decode cX2_settle 135 = .ok (.aload_n 0, 1) := by decide +kernel
theorem dX2_settle_136 : decode cX2_settle 136 = .ok (.getfield 18, 3) := by decide +kernel
theorem dX2_settle_139 : decode cX2_settle 139 = .ok (.iconst 0, 1) := by decide +kernel
theorem dX2_settle_140 : decode cX2_settle 140 = .ok (.iaload, 1) := by decide +kernel
theorem dX2_settle_141 : decode cX2_settle 141 = .ok (.iconst (-1), 1) := by decide +kernel
theorem dX2_settle_142 : decode cX2_settle 142 = .ok (.iload_n 1, 1) := by decide +kernel
theorem dX2_settle_143 : decode cX2_settle 143 = .ok (.invokevirtual 47, 3) := by decide +kernel
theorem dX2_settle_146 : decode cX2_settle 146 = .ok (.ireturn, 1) := by decide +kernel
theorem dX2_stageOf_0 : decode cX2_stageOf 0 = .ok (.iload_n 1, 1) := by decide +kernel
theorem dX2_stageOf_1 : decode cX2_stageOf 1 = .ok (.ifCond .lt 11, 3) := by decide +kernel
theorem dX2_stageOf_4 : decode cX2_stageOf 4 = .ok (.iload_n 1, 1) := by decide +kernel
theorem dX2_stageOf_5 : decode cX2_stageOf 5 = .ok (.aload_n 0, 1) := by decide +kernel
theorem dX2_stageOf_6 : decode cX2_stageOf 6 = .ok (.getfield 21, 3) := by decide +kernel
theorem dX2_stageOf_9 : decode cX2_stageOf 9 = .ok (.if_icmp .lt 7, 3) := by decide +kernel
theorem dX2_stageOf_12 : decode cX2_stageOf 12 = .ok (.iconst (-1), 1) := by decide +kernel
theorem dX2_stageOf_13 : decode cX2_stageOf 13 = .ok (.goto 9, 3) := by decide +kernel
theorem dX2_stageOf_22 : decode cX2_stageOf 22 = .ok (.ireturn, 1) := by decide +kernel
theorem dX2_cheapest_0 : decode cX2_cheapest 0 = .ok (.iconst 0, 1) := by decide +kernel
theorem dX2_cheapest_1 : decode cX2_cheapest 1 = .ok (.istore 4, 2) := by decide +kernel
theorem dX2_cheapest_3 : decode cX2_cheapest 3 = .ok (.iconst 1, 1) := by decide +kernel
theorem dX2_cheapest_4 : decode cX2_cheapest 4 = .ok (.istore 5, 2) := by decide +kernel
theorem dX2_cheapest_6 : decode cX2_cheapest 6 = .ok (.iload 5, 2) := by decide +kernel
theorem dX2_cheapest_8 : decode cX2_cheapest 8 = .ok (.aload_n 0, 1) := by decide +kernel
theorem dX2_cheapest_9 : decode cX2_cheapest 9 = .ok (.getfield 28, 3) := by decide +kernel
theorem dX2_cheapest_12 : decode cX2_cheapest 12 = .ok (.if_icmp .ge 34, 3) := by decide +kernel
theorem dX2_cheapest_46 : decode cX2_cheapest 46 = .ok (.iload 4, 2) := by decide +kernel
theorem dX2_cheapest_48 : decode cX2_cheapest 48 = .ok (.ireturn, 1) := by decide +kernel
theorem dX2_cost_0 : decode cX2_cost 0 = .ok (.iload_n 3, 1) := by decide +kernel
theorem dX2_cost_1 : decode cX2_cost 1 = .ok (.iconst (-1), 1) := by decide +kernel
theorem dX2_cost_2 : decode cX2_cost 2 = .ok (.if_icmp .eq 12, 3) := by decide +kernel
theorem dX2_cost_14 : decode cX2_cost 14 = .ok (.iconst 0, 1) := by decide +kernel
theorem dX2_cost_15 : decode cX2_cost 15 = .ok (.istore 5, 2) := by decide +kernel
theorem dX2_cost_17 : decode cX2_cost 17 = .ok (.aload_n 0, 1) := by decide +kernel
theorem dX2_cost_18 : decode cX2_cost 18 = .ok (.getfield 15, 3) := by decide +kernel
theorem dX2_cost_21 : decode cX2_cost 21 = .ok (.iload_n 1, 1) := by decide +kernel
theorem dX2_cost_22 : decode cX2_cost 22 = .ok (.bipush 7, 2) := by decide +kernel
theorem dX2_cost_24 : decode cX2_cost 24 = .ok (.imul, 1) := by decide +kernel
theorem dX2_cost_25 : decode cX2_cost 25 = .ok (.iload_n 2, 1) := by decide +kernel
theorem dX2_cost_26 : decode cX2_cost 26 = .ok (.iadd, 1) := by decide +kernel
theorem dX2_cost_27 : decode cX2_cost 27 = .ok (.iaload, 1) := by decide +kernel
theorem dX2_cost_28 : decode cX2_cost 28 = .ok (.iload 5, 2) := by decide +kernel
theorem dX2_cost_30 : decode cX2_cost 30 = .ok (.ifCond .eq 8, 3) := by decide +kernel
theorem dX2_cost_38 : decode cX2_cost 38 = .ok (.iconst 0, 1) := by decide +kernel
theorem dX2_cost_39 : decode cX2_cost 39 = .ok (.iadd, 1) := by decide +kernel
theorem dX2_cost_40 : decode cX2_cost 40 = .ok (.ireturn, 1) := by decide +kernel
set_option maxRecDepth 20000 in
theorem ggX3_init_X10_init : GoodIn wsX3_init wsX10_init := goodIn_r _ [19, 20, 2, 3, 21, 22, 7, 23, 5, 24, 32, 33, 34, 35] (by decide +kernel) (by decide +kernel)
set_option maxRecDepth 20000 in
theorem gX3_init_X10_init : GoodIn wsX3_init (wsX10_init) := ggX3_init_X10_init
theorem dX3_init_0 : decode cX3_init 0 = .ok (.aload_n 0, 1) := by decide +kernel
theorem dX3_init_1 : decode cX3_init 1 = .ok (.invokespecial 3, 3) := by decide +kernel
theorem dX3_init_4 : decode cX3_init 4 = .ok (.aload_n 0, 1) := by decide +kernel
theorem dX3_init_5 : decode cX3_init 5 = .ok (.iconst 0, 1) := by decide +kernel
theorem dX3_init_6 : decode cX3_init 6 = .ok (.putfield 9, 3) := by decide +kernel
theorem dX3_init_9 : decode cX3_init 9 = .ok (.aload_n 0, 1) := by decide +kernel
theorem dX3_init_10 : decode cX3_init 10 = .ok (.bipush 30, 2) := by decide +kernel
theorem dX3_init_12 : decode cX3_init 12 = .ok (.newarray .int, 2) := by decide +kernel
theorem dX3_init_14 : decode cX3_init 14 = .ok (.putfield 15, 3) := by decide +kernel
theorem dX3_init_17 : decode cX3_init 17 = .ok (.aload_n 0, 1) := by decide +kernel
theorem dX3_init_18 : decode cX3_init 18 = .ok (.sipush 720, 3) := by decide +kernel
theorem dX3_init_21 : decode cX3_init 21 = .ok (.newarray .byte, 2) := by decide +kernel
theorem dX3_init_23 : decode cX3_init 23 = .ok (.putfield 19, 3) := by decide +kernel
theorem dX3_init_26 : decode cX3_init 26 = .ok (.aload_n 0, 1) := by decide +kernel
theorem dX3_init_27 : decode cX3_init 27 = .ok (.sipush 408, 3) := by decide +kernel
theorem dX3_init_30 : decode cX3_init 30 = .ok (.newarray .byte, 2) := by decide +kernel
theorem dX3_init_32 : decode cX3_init 32 = .ok (.putfield 23, 3) := by decide +kernel
theorem dX3_init_35 : decode cX3_init 35 = .ok (.aload_n 0, 1) := by decide +kernel
theorem dX3_init_36 : decode cX3_init 36 = .ok (.bipush 25, 2) := by decide +kernel
theorem dX3_init_38 : decode cX3_init 38 = .ok (.newarray .boolean, 2) := by decide +kernel
theorem dX3_init_40 : decode cX3_init 40 = .ok (.putfield 26, 3) := by decide +kernel
theorem dX3_init_43 : decode cX3_init 43 = .ok (.aload_n 0, 1) := by decide +kernel
theorem dX3_init_44 : decode cX3_init 44 = .ok (.bipush 24, 2) := by decide +kernel
theorem dX3_init_46 : decode cX3_init 46 = .ok (.newarray .byte, 2) := by decide +kernel
theorem dX3_init_48 : decode cX3_init 48 = .ok (.putfield 30, 3) := by decide +kernel
theorem dX3_init_51 : decode cX3_init 51 = .ok (.aload_n 0, 1) := by decide +kernel
theorem dX3_init_52 : decode cX3_init 52 = .ok (.new 33, 3) := by decide +kernel
theorem dX3_init_55 : decode cX3_init 55 = .ok (.dup, 1) := by decide +kernel
theorem dX3_init_56 : decode cX3_init 56 = .ok (.iconst 0, 1) := by decide +kernel
theorem dX3_init_57 : decode cX3_init 57 = .ok (.iconst 0, 1) := by decide +kernel
theorem dX3_init_58 : decode cX3_init 58 = .ok (.invokespecial 35, 3) := by decide +kernel
theorem dX3_init_61 : decode cX3_init 61 = .ok (.putfield 38, 3) := by decide +kernel
theorem dX3_init_64 : decode cX3_init 64 = .ok (.return_, 1) := by decide +kernel
theorem dX4_init_0 : decode cX4_init 0 = .ok (.aload_n 0, 1) := by decide +kernel
theorem dX4_init_1 : decode cX4_init 1 = .ok (.invokespecial 3, 3) := by decide +kernel
theorem dX4_init_4 : decode cX4_init 4 = .ok (.aload_n 0, 1) := by decide +kernel
theorem dX4_init_5 : decode cX4_init 5 = .ok (.iconst 0, 1) := by decide +kernel
theorem dX4_init_6 : decode cX4_init 6 = .ok (.putfield 9, 3) := by decide +kernel
theorem dX4_init_9 : decode cX4_init 9 = .ok (.aload_n 0, 1) := by decide +kernel
theorem dX4_init_10 : decode cX4_init 10 = .ok (.iconst (-1), 1) := by decide +kernel
theorem dX4_init_11 : decode cX4_init 11 = .ok (.putfield 15, 3) := by decide +kernel
theorem dX4_init_14 : decode cX4_init 14 = .ok (.aload_n 0, 1) := by decide +kernel
theorem dX4_init_15 : decode cX4_init 15 = .ok (.iconst 0, 1) := by decide +kernel
theorem dX4_init_16 : decode cX4_init 16 = .ok (.newarray .byte, 2) := by decide +kernel
theorem dX4_init_18 : decode cX4_init 18 = .ok (.putfield 18, 3) := by decide +kernel
theorem dX4_init_21 : decode cX4_init 21 = .ok (.aload_n 0, 1) := by decide +kernel
theorem dX4_init_22 : decode cX4_init 22 = .ok (.iconst 0, 1) := by decide +kernel
theorem dX4_init_23 : decode cX4_init 23 = .ok (.putfield 22, 3) := by decide +kernel
theorem dX4_init_26 : decode cX4_init 26 = .ok (.aload_n 0, 1) := by decide +kernel
theorem dX4_init_27 : decode cX4_init 27 = .ok (.iconst 0, 1) := by decide +kernel
theorem dX4_init_28 : decode cX4_init 28 = .ok (.putfield 25, 3) := by decide +kernel
theorem dX4_init_31 : decode cX4_init 31 = .ok (.aload_n 0, 1) := by decide +kernel
theorem dX4_init_32 : decode cX4_init 32 = .ok (.iconst 0, 1) := by decide +kernel
theorem dX4_init_33 : decode cX4_init 33 = .ok (.putfield 28, 3) := by decide +kernel
theorem dX4_init_36 : decode cX4_init 36 = .ok (.aload_n 0, 1) := by decide +kernel
theorem dX4_init_37 : decode cX4_init 37 = .ok (.iconst 0, 1) := by decide +kernel
theorem dX4_init_38 : decode cX4_init 38 = .ok (.putfield 31, 3) := by decide +kernel
theorem dX4_init_41 : decode cX4_init 41 = .ok (.aload_n 0, 1) := by decide +kernel
theorem dX4_init_42 : decode cX4_init 42 = .ok (.iconst 0, 1) := by decide +kernel
theorem dX4_init_43 : decode cX4_init 43 = .ok (.putfield 34, 3) := by decide +kernel
theorem dX4_init_46 : decode cX4_init 46 = .ok (.aload_n 0, 1) := by decide +kernel
theorem dX4_init_47 : decode cX4_init 47 = .ok (.iconst 0, 1) := by decide +kernel
theorem dX4_init_48 : decode cX4_init 48 = .ok (.putfield 37, 3) := by decide +kernel
theorem dX4_init_51 : decode cX4_init 51 = .ok (.return_, 1) := by decide +kernel
set_option maxRecDepth 20000 in
theorem ggX4_read_X4_nextToken : GoodIn wsX4_read wsX4_nextToken := goodIn_r _ [15, 7, 6, 1, 16, 17, 10, 18, 19, 20, 14, 21, 22, 23, 24, 25, 26, 224, 225, 226, 227, 228, 229, 230, 231, 232] (by decide +kernel) (by decide +kernel)
set_option maxRecDepth 20000 in
theorem gX4_read_X4_nextToken : GoodIn wsX4_read (wsV RX4 46 RX4 yX4_nextToken wsX4_nextToken) := goodIn_app (goodIn_of _ (by decide +kernel)) ggX4_read_X4_nextToken
theorem dX4_read_0 : decode cX4_read 0 = .ok (.aload_n 0, 1) := by decide +kernel
theorem dX4_read_1 : decode cX4_read 1 = .ok (.aload_n 1, 1) := by decide +kernel
theorem dX4_read_2 : decode cX4_read 2 = .ok (.putfield 18, 3) := by decide +kernel
theorem dX4_read_5 : decode cX4_read 5 = .ok (.aload_n 0, 1) := by decide +kernel
theorem dX4_read_6 : decode cX4_read 6 = .ok (.iload_n 2, 1) := by decide +kernel
theorem dX4_read_7 : decode cX4_read 7 = .ok (.aload_n 1, 1) := by decide +kernel
end
section
theorem dX4_read_8 : decode cX4_read 8 = .ok (.arraylength, 1) := by decide +kernel
theorem dX4_read_9 : decode cX4_read 9 = .ok (.invokestatic 40, 3) := by decide +kernel
theorem dX4_read_12 : decode cX4_read 12 = .ok (.putfield 22, 3) := by decide +kernel
theorem dX4_read_15 : decode cX4_read 15 = .ok (.aload_n 0, 1) := by decide +kernel
theorem dX4_read_16 : decode cX4_read 16 = .ok (.iconst 0, 1) := by decide +kernel
theorem dX4_read_17 : decode cX4_read 17 = .ok (.putfield 25, 3) := by decide +kernel
theorem dX4_read_20 : decode cX4_read 20 = .ok (.aload_n 0, 1) := by decide +kernel
theorem dX4_read_21 : decode cX4_read 21 = .ok (.iconst 0, 1) := by decide +kernel
theorem dX4_read_22 : decode cX4_read 22 = .ok (.putfield 9, 3) := by decide +kernel
theorem dX4_read_25 : decode cX4_read 25 = .ok (.aload_n 0, 1) := by decide +kernel
theorem dX4_read_26 : decode cX4_read 26 = .ok (.iconst (-1), 1) := by decide +kernel
theorem dX4_read_27 : decode cX4_read 27 = .ok (.putfield 15, 3) := by decide +kernel
theorem dX4_read_30 : decode cX4_read 30 = .ok (.iconst 0, 1) := by decide +kernel
theorem dX4_read_31 : decode cX4_read 31 = .ok (.istore 4, 2) := by decide +kernel
theorem dX4_read_33 : decode cX4_read 33 = .ok (.iload 4, 2) := by decide +kernel
theorem dX4_read_35 : decode cX4_read 35 = .ok (.aload_n 0, 1) := by decide +kernel
theorem dX4_read_36 : decode cX4_read 36 = .ok (.getfield 22, 3) := by decide +kernel
theorem dX4_read_39 : decode cX4_read 39 = .ok (.if_icmp .gt 102, 3) := by decide +kernel
theorem dX4_read_42 : decode cX4_read 42 = .ok (.aload_n 0, 1) := by decide +kernel
theorem dX4_read_43 : decode cX4_read 43 = .ok (.getfield 9, 3) := by decide +kernel
theorem dX4_read_46 : decode cX4_read 46 = .ok (.ifCond .ne 95, 3) := by decide +kernel
theorem dX4_read_49 : decode cX4_read 49 = .ok (.aload_n 0, 1) := by decide +kernel
theorem dX4_read_50 : decode cX4_read 50 = .ok (.invokevirtual 46, 3) := by decide +kernel
theorem dX4_read_53 : decode cX4_read 53 = .ok (.aload_n 0, 1) := by decide +kernel
theorem dX4_read_54 : decode cX4_read 54 = .ok (.getfield 28, 3) := by decide +kernel
theorem dX4_read_57 : decode cX4_read 57 = .ok (.ifCond .ne 4, 3) := by decide +kernel
theorem dX4_read_60 : decode cX4_read 60 = .ok (.return_, 1) := by decide +kernel
theorem dX4_nextToken_0 : decode cX4_nextToken 0 = .ok (.aload_n 0, 1) := by decide +kernel
theorem dX4_nextToken_1 : decode cX4_nextToken 1 = .ok (.getfield 25, 3) := by decide +kernel
theorem dX4_nextToken_4 : decode cX4_nextToken 4 = .ok (.aload_n 0, 1) := by decide +kernel
theorem dX4_nextToken_5 : decode cX4_nextToken 5 = .ok (.getfield 22, 3) := by decide +kernel
theorem dX4_nextToken_8 : decode cX4_nextToken 8 = .ok (.if_icmp .ge 44, 3) := by decide +kernel
theorem dX4_nextToken_52 : decode cX4_nextToken 52 = .ok (.aload_n 0, 1) := by decide +kernel
theorem dX4_nextToken_53 : decode cX4_nextToken 53 = .ok (.aload_n 0, 1) := by decide +kernel
theorem dX4_nextToken_54 : decode cX4_nextToken 54 = .ok (.getfield 25, 3) := by decide +kernel
theorem dX4_nextToken_57 : decode cX4_nextToken 57 = .ok (.putfield 31, 3) := by decide +kernel
theorem dX4_nextToken_60 : decode cX4_nextToken 60 = .ok (.aload_n 0, 1) := by decide +kernel
theorem dX4_nextToken_61 : decode cX4_nextToken 61 = .ok (.iconst 0, 1) := by decide +kernel
theorem dX4_nextToken_62 : decode cX4_nextToken 62 = .ok (.putfield 37, 3) := by decide +kernel
theorem dX4_nextToken_65 : decode cX4_nextToken 65 = .ok (.aload_n 0, 1) := by decide +kernel
theorem dX4_nextToken_66 : decode cX4_nextToken 66 = .ok (.getfield 25, 3) := by decide +kernel
theorem dX4_nextToken_69 : decode cX4_nextToken 69 = .ok (.aload_n 0, 1) := by decide +kernel
theorem dX4_nextToken_70 : decode cX4_nextToken 70 = .ok (.getfield 22, 3) := by decide +kernel
theorem dX4_nextToken_73 : decode cX4_nextToken 73 = .ok (.if_icmp .lt 11, 3) := by decide +kernel
theorem dX4_nextToken_76 : decode cX4_nextToken 76 = .ok (.aload_n 0, 1) := by decide +kernel
theorem dX4_nextToken_77 : decode cX4_nextToken 77 = .ok (.iconst 0, 1) := by decide +kernel
theorem dX4_nextToken_78 : decode cX4_nextToken 78 = .ok (.putfield 28, 3) := by decide +kernel
theorem dX4_nextToken_81 : decode cX4_nextToken 81 = .ok (.goto 136, 3) := by decide +kernel
theorem dX4_nextToken_217 : decode cX4_nextToken 217 = .ok (.return_, 1) := by decide +kernel
set_option maxRecDepth 20000 in
theorem ggX5_init_X10_init : GoodIn wsX5_init wsX10_init := goodIn_r _ [23, 24, 2, 3, 25, 26, 27, 28, 29, 30, 42, 43, 44, 45] (by decide +kernel) (by decide +kernel)
set_option maxRecDepth 20000 in
theorem gX5_init_X10_init : GoodIn wsX5_init (wsX10_init) := ggX5_init_X10_init
theorem dX5_init_0 : decode cX5_init 0 = .ok (.aload_n 0, 1) := by decide +kernel
theorem dX5_init_1 : decode cX5_init 1 = .ok (.invokespecial 3, 3) := by decide +kernel
theorem dX5_init_4 : decode cX5_init 4 = .ok (.aload_n 0, 1) := by decide +kernel
theorem dX5_init_5 : decode cX5_init 5 = .ok (.iconst 0, 1) := by decide +kernel
theorem dX5_init_6 : decode cX5_init 6 = .ok (.putfield 9, 3) := by decide +kernel
theorem dX5_init_9 : decode cX5_init 9 = .ok (.aload_n 0, 1) := by decide +kernel
theorem dX5_init_10 : decode cX5_init 10 = .ok (.bipush 40, 2) := by decide +kernel
theorem dX5_init_12 : decode cX5_init 12 = .ok (.anewarray 15, 3) := by decide +kernel
theorem dX5_init_15 : decode cX5_init 15 = .ok (.putfield 17, 3) := by decide +kernel
theorem dX5_init_18 : decode cX5_init 18 = .ok (.aload_n 0, 1) := by decide +kernel
theorem dX5_init_19 : decode cX5_init 19 = .ok (.iconst 0, 1) := by decide +kernel
theorem dX5_init_20 : decode cX5_init 20 = .ok (.putfield 21, 3) := by decide +kernel
theorem dX5_init_23 : decode cX5_init 23 = .ok (.aload_n 0, 1) := by decide +kernel
theorem dX5_init_24 : decode cX5_init 24 = .ok (.new 24, 3) := by decide +kernel
theorem dX5_init_27 : decode cX5_init 27 = .ok (.dup, 1) := by decide +kernel
theorem dX5_init_28 : decode cX5_init 28 = .ok (.bipush 40, 2) := by decide +kernel
theorem dX5_init_30 : decode cX5_init 30 = .ok (.bipush 16, 2) := by decide +kernel
theorem dX5_init_32 : decode cX5_init 32 = .ok (.invokespecial 26, 3) := by decide +kernel
theorem dX5_init_35 : decode cX5_init 35 = .ok (.putfield 29, 3) := by decide +kernel
theorem dX5_init_38 : decode cX5_init 38 = .ok (.aload_n 0, 1) := by decide +kernel
theorem dX5_init_39 : decode cX5_init 39 = .ok (.new 24, 3) := by decide +kernel
theorem dX5_init_42 : decode cX5_init 42 = .ok (.dup, 1) := by decide +kernel
theorem dX5_init_43 : decode cX5_init 43 = .ok (.bipush 40, 2) := by decide +kernel
theorem dX5_init_45 : decode cX5_init 45 = .ok (.bipush 16, 2) := by decide +kernel
theorem dX5_init_47 : decode cX5_init 47 = .ok (.invokespecial 26, 3) := by decide +kernel
theorem dX5_init_50 : decode cX5_init 50 = .ok (.putfield 33, 3) := by decide +kernel
theorem dX5_init_53 : decode cX5_init 53 = .ok (.aload_n 0, 1) := by decide +kernel
theorem dX5_init_54 : decode cX5_init 54 = .ok (.new 24, 3) := by decide +kernel
theorem dX5_init_57 : decode cX5_init 57 = .ok (.dup, 1) := by decide +kernel
theorem dX5_init_58 : decode cX5_init 58 = .ok (.bipush 40, 2) := by decide +kernel
theorem dX5_init_60 : decode cX5_init 60 = .ok (.bipush 16, 2) := by decide +kernel
theorem dX5_init_62 : decode cX5_init 62 = .ok (.invokespecial 26, 3) := by decide +kernel
theorem dX5_init_65 : decode cX5_init 65 = .ok (.putfield 36, 3) := by decide +kernel
theorem dX5_init_68 : decode cX5_init 68 = .ok (.aload_n 0, 1) := by decide +kernel
theorem dX5_init_69 : decode cX5_init 69 = .ok (.bipush 40, 2) := by decide +kernel
theorem dX5_init_71 : decode cX5_init 71 = .ok (.newarray .boolean, 2) := by decide +kernel
theorem dX5_init_73 : decode cX5_init 73 = .ok (.putfield 39, 3) := by decide +kernel
theorem dX5_init_76 : decode cX5_init 76 = .ok (.aload_n 0, 1) := by decide +kernel
theorem dX5_init_77 : decode cX5_init 77 = .ok (.iconst 0, 1) := by decide +kernel
theorem dX5_init_78 : decode cX5_init 78 = .ok (.putfield 43, 3) := by decide +kernel
theorem dX5_init_81 : decode cX5_init 81 = .ok (.aload_n 0, 1) := by decide +kernel
theorem dX5_init_82 : decode cX5_init 82 = .ok (.new 24, 3) := by decide +kernel
theorem dX5_init_85 : decode cX5_init 85 = .ok (.dup, 1) := by decide +kernel
theorem dX5_init_86 : decode cX5_init 86 = .ok (.bipush 40, 2) := by decide +kernel
theorem dX5_init_88 : decode cX5_init 88 = .ok (.bipush 24, 2) := by decide +kernel
theorem dX5_init_90 : decode cX5_init 90 = .ok (.invokespecial 26, 3) := by decide +kernel
theorem dX5_init_93 : decode cX5_init 93 = .ok (.putfield 46, 3) := by decide +kernel
theorem dX5_init_96 : decode cX5_init 96 = .ok (.aload_n 0, 1) := by decide +kernel
theorem dX5_init_97 : decode cX5_init 97 = .ok (.bipush 40, 2) := by decide +kernel
theorem dX5_init_99 : decode cX5_init 99 = .ok (.newarray .boolean, 2) := by decide +kernel
theorem dX5_init_101 : decode cX5_init 101 = .ok (.putfield 49, 3) := by decide +kernel
theorem dX5_init_104 : decode cX5_init 104 = .ok (.aload_n 0, 1) := by decide +kernel
theorem dX5_init_105 : decode cX5_init 105 = .ok (.bipush 40, 2) := by decide +kernel
theorem dX5_init_107 : decode cX5_init 107 = .ok (.newarray .long, 2) := by decide +kernel
theorem dX5_init_109 : decode cX5_init 109 = .ok (.putfield 52, 3) := by decide +kernel
theorem dX5_init_112 : decode cX5_init 112 = .ok (.return_, 1) := by decide +kernel
theorem dX5_clear_0 : decode cX5_clear 0 = .ok (.aload_n 0, 1) := by decide +kernel
theorem dX5_clear_1 : decode cX5_clear 1 = .ok (.iload_n 1, 1) := by decide +kernel
theorem dX5_clear_2 : decode cX5_clear 2 = .ok (.putfield 9, 3) := by decide +kernel
theorem dX5_clear_5 : decode cX5_clear 5 = .ok (.aload_n 0, 1) := by decide +kernel
theorem dX5_clear_6 : decode cX5_clear 6 = .ok (.iconst 0, 1) := by decide +kernel
theorem dX5_clear_7 : decode cX5_clear 7 = .ok (.putfield 21, 3) := by decide +kernel
theorem dX5_clear_10 : decode cX5_clear 10 = .ok (.aload_n 0, 1) := by decide +kernel
theorem dX5_clear_11 : decode cX5_clear 11 = .ok (.getfield 29, 3) := by decide +kernel
theorem dX5_clear_14 : decode cX5_clear 14 = .ok (.iconst 0, 1) := by decide +kernel
theorem dX5_clear_15 : decode cX5_clear 15 = .ok (.putfield 56, 3) := by decide +kernel
theorem dX5_clear_18 : decode cX5_clear 18 = .ok (.aload_n 0, 1) := by decide +kernel
theorem dX5_clear_19 : decode cX5_clear 19 = .ok (.getfield 33, 3) := by decide +kernel
theorem dX5_clear_22 : decode cX5_clear 22 = .ok (.iconst 0, 1) := by decide +kernel
theorem dX5_clear_23 : decode cX5_clear 23 = .ok (.putfield 56, 3) := by decide +kernel
theorem dX5_clear_26 : decode cX5_clear 26 = .ok (.aload_n 0, 1) := by decide +kernel
theorem dX5_clear_27 : decode cX5_clear 27 = .ok (.getfield 36, 3) := by decide +kernel
theorem dX5_clear_30 : decode cX5_clear 30 = .ok (.iconst 0, 1) := by decide +kernel
theorem dX5_clear_31 : decode cX5_clear 31 = .ok (.putfield 56, 3) := by decide +kernel
theorem dX5_clear_34 : decode cX5_clear 34 = .ok (.aload_n 0, 1) := by decide +kernel
theorem dX5_clear_35 : decode cX5_clear 35 = .ok (.iconst 0, 1) := by decide +kernel
theorem dX5_clear_36 : decode cX5_clear 36 = .ok (.putfield 43, 3) := by decide +kernel
theorem dX5_clear_39 : decode cX5_clear 39 = .ok (.aload_n 0, 1) := by decide +kernel
theorem dX5_clear_40 : decode cX5_clear 40 = .ok (.getfield 46, 3) := by decide +kernel
theorem dX5_clear_43 : decode cX5_clear 43 = .ok (.iconst 0, 1) := by decide +kernel
theorem dX5_clear_44 : decode cX5_clear 44 = .ok (.putfield 56, 3) := by decide +kernel
theorem dX5_clear_47 : decode cX5_clear 47 = .ok (.return_, 1) := by decide +kernel
theorem dX6_init_0 : decode cX6_init 0 = .ok (.aload_n 0, 1) := by decide +kernel
theorem dX6_init_1 : decode cX6_init 1 = .ok (.invokespecial 3, 3) := by decide +kernel
theorem dX6_init_4 : decode cX6_init 4 = .ok (.aload_n 0, 1) := by decide +kernel
theorem dX6_init_5 : decode cX6_init 5 = .ok (.sipush 2500, 3) := by decide +kernel
theorem dX6_init_8 : decode cX6_init 8 = .ok (.newarray .byte, 2) := by decide +kernel
theorem dX6_init_10 : decode cX6_init 10 = .ok (.putfield 9, 3) := by decide +kernel
theorem dX6_init_13 : decode cX6_init 13 = .ok (.aload_n 0, 1) := by decide +kernel
theorem dX6_init_14 : decode cX6_init 14 = .ok (.sipush 2500, 3) := by decide +kernel
theorem dX6_init_17 : decode cX6_init 17 = .ok (.newarray .byte, 2) := by decide +kernel
theorem dX6_init_19 : decode cX6_init 19 = .ok (.putfield 15, 3) := by decide +kernel
theorem dX6_init_22 : decode cX6_init 22 = .ok (.aload_n 0, 1) := by decide +kernel
theorem dX6_init_23 : decode cX6_init 23 = .ok (.iconst 5, 1) := by decide +kernel
theorem dX6_init_24 : decode cX6_init 24 = .ok (.newarray .int, 2) := by decide +kernel
theorem dX6_init_26 : decode cX6_init 26 = .ok (.putfield 18, 3) := by decide +kernel
theorem dX6_init_29 : decode cX6_init 29 = .ok (.aload_n 0, 1) := by decide +kernel
theorem dX6_init_30 : decode cX6_init 30 = .ok (.iconst 5, 1) := by decide +kernel
theorem dX6_init_31 : decode cX6_init 31 = .ok (.newarray .int, 2) := by decide +kernel
theorem dX6_init_33 : decode cX6_init 33 = .ok (.putfield 22, 3) := by decide +kernel
theorem dX6_init_36 : decode cX6_init 36 = .ok (.aload_n 0, 1) := by decide +kernel
theorem dX6_init_37 : decode cX6_init 37 = .ok (.iconst 0, 1) := by decide +kernel
theorem dX6_init_38 : decode cX6_init 38 = .ok (.putfield 25, 3) := by decide +kernel
theorem dX6_init_41 : decode cX6_init 41 = .ok (.aload_n 0, 1) := by decide +kernel
theorem dX6_init_42 : decode cX6_init 42 = .ok (.iconst 0, 1) := by decide +kernel
theorem dX6_init_43 : decode cX6_init 43 = .ok (.putfield 29, 3) := by decide +kernel
theorem dX6_init_46 : decode cX6_init 46 = .ok (.aload_n 0, 1) := by decide +kernel
theorem dX6_init_47 : decode cX6_init 47 = .ok (.iconst 0, 1) := by decide +kernel
theorem dX6_init_48 : decode cX6_init 48 = .ok (.putfield 33, 3) := by decide +kernel
theorem dX6_init_51 : decode cX6_init 51 = .ok (.aload_n 0, 1) := by decide +kernel
theorem dX6_init_52 : decode cX6_init 52 = .ok (.iconst 0, 1) := by decide +kernel
theorem dX6_init_53 : decode cX6_init 53 = .ok (.putfield 36, 3) := by decide +kernel
theorem dX6_init_56 : decode cX6_init 56 = .ok (.aload_n 0, 1) := by decide +kernel
theorem dX6_init_57 : decode cX6_init 57 = .ok (.iconst 1, 1) := by decide +kernel
theorem dX6_init_58 : decode cX6_init 58 = .ok (.putfield 39, 3) := by decide +kernel
theorem dX6_init_61 : decode cX6_init 61 = .ok (.return_, 1) := by decide +kernel
set_option maxRecDepth 20000 in
theorem ggX6_begin_J7_fill_53178 : GoodIn wsX6_begin wsJ7_fill_53178 := goodIn_r _ [8] (by decide +kernel) (by decide +kernel)
set_option maxRecDepth 20000 in
theorem gX6_begin_J7_fill_53178 : GoodIn wsX6_begin (va_wsS RX6 42 yJ7_fill_53178 wsJ7_fill_53178) := goodIn_app (goodIn_of _ (by decide +kernel)) ggX6_begin_J7_fill_53178
theorem dX6_begin_0 : decode cX6_begin 0 = .ok (.aload_n 0, 1) := by decide +kernel
theorem dX6_begin_1 : decode cX6_begin 1 = .ok (.getfield 22, 3) := by decide +kernel
theorem dX6_begin_4 : decode cX6_begin 4 = .ok (.iconst 0, 1) := by decide +kernel
theorem dX6_begin_5 : decode cX6_begin 5 = .ok (.invokestatic 42, 3) := by decide +kernel
theorem dX6_begin_8 : decode cX6_begin 8 = .ok (.aload_n 0, 1) := by decide +kernel
theorem dX6_begin_9 : decode cX6_begin 9 = .ok (.iconst 0, 1) := by decide +kernel
theorem dX6_begin_10 : decode cX6_begin 10 = .ok (.putfield 33, 3) := by decide +kernel
theorem dX6_begin_13 : decode cX6_begin 13 = .ok (.aload_n 0, 1) := by decide +kernel
theorem dX6_begin_14 : decode cX6_begin 14 = .ok (.iconst 0, 1) := by decide +kernel
theorem dX6_begin_15 : decode cX6_begin 15 = .ok (.putfield 36, 3) := by decide +kernel
theorem dX6_begin_18 : decode cX6_begin 18 = .ok (.aload_n 0, 1) := by decide +kernel
theorem dX6_begin_19 : decode cX6_begin 19 = .ok (.iconst 1, 1) := by decide +kernel
theorem dX6_begin_20 : decode cX6_begin 20 = .ok (.putfield 39, 3) := by decide +kernel
theorem dX6_begin_23 : decode cX6_begin 23 = .ok (.return_, 1) := by decide +kernel
set_option maxRecDepth 20000 in
theorem ggX6_finish_X6_append : GoodIn wsX6_finish wsX6_append := goodIn_r _ [14, 2, 8, 4, 15, 16, 17, 18, 19, 20, 21, 22, 23, 24, 25, 26, 27] (by decide +kernel) (by decide +kernel)
set_option maxRecDepth 20000 in
theorem gX6_finish_X6_append : GoodIn wsX6_finish (wsV RX6 74 RX6 yX6_append wsX6_append) := goodIn_app (goodIn_of _ (by decide +kernel)) ggX6_finish_X6_append
theorem dX6_finish_0 : decode cX6_finish 0 = .ok (.aload_n 0, 1) := by decide +kernel
theorem dX6_finish_1 : decode cX6_finish 1 = .ok (.aload_n 1, 1) := by decide +kernel
theorem dX6_finish_2 : decode cX6_finish 2 = .ok (.aload_n 0, 1) := by decide +kernel
theorem dX6_finish_3 : decode cX6_finish 3 = .ok (.getfield 36, 3) := by decide +kernel
theorem dX6_finish_6 : decode cX6_finish 6 = .ok (.iload_n 2, 1) := by decide +kernel
theorem dX6_finish_7 : decode cX6_finish 7 = .ok (.aload_n 0, 1) := by decide +kernel
theorem dX6_finish_8 : decode cX6_finish 8 = .ok (.getfield 36, 3) := by decide +kernel
theorem dX6_finish_11 : decode cX6_finish 11 = .ok (.isub, 1) := by decide +kernel
theorem dX6_finish_12 : decode cX6_finish 12 = .ok (.invokevirtual 74, 3) := by decide +kernel
theorem dX6_finish_15 : decode cX6_finish 15 = .ok (.aload_n 0, 1) := by decide +kernel
theorem dX6_finish_16 : decode cX6_finish 16 = .ok (.getfield 39, 3) := by decide +kernel
theorem dX6_finish_19 : decode cX6_finish 19 = .ok (.ifCond .ne 5, 3) := by decide +kernel
theorem dX6_finish_24 : decode cX6_finish 24 = .ok (.aload_n 0, 1) := by decide +kernel
theorem dX6_finish_25 : decode cX6_finish 25 = .ok (.getfield 9, 3) := by decide +kernel
theorem dX6_finish_28 : decode cX6_finish 28 = .ok (.astore_n 3, 1) := by decide +kernel
theorem dX6_finish_29 : decode cX6_finish 29 = .ok (.aload_n 0, 1) := by decide +kernel
theorem dX6_finish_30 : decode cX6_finish 30 = .ok (.aload_n 0, 1) := by decide +kernel
theorem dX6_finish_31 : decode cX6_finish 31 = .ok (.getfield 15, 3) := by decide +kernel
theorem dX6_finish_34 : decode cX6_finish 34 = .ok (.putfield 9, 3) := by decide +kernel
theorem dX6_finish_37 : decode cX6_finish 37 = .ok (.aload_n 0, 1) := by decide +kernel
theorem dX6_finish_38 : decode cX6_finish 38 = .ok (.aload_n 3, 1) := by decide +kernel
theorem dX6_finish_39 : decode cX6_finish 39 = .ok (.putfield 15, 3) := by decide +kernel
theorem dX6_finish_42 : decode cX6_finish 42 = .ok (.aload_n 0, 1) := by decide +kernel
theorem dX6_finish_43 : decode cX6_finish 43 = .ok (.getfield 18, 3) := by decide +kernel
theorem dX6_finish_46 : decode cX6_finish 46 = .ok (.astore 4, 2) := by decide +kernel
theorem dX6_finish_48 : decode cX6_finish 48 = .ok (.aload_n 0, 1) := by decide +kernel
theorem dX6_finish_49 : decode cX6_finish 49 = .ok (.aload_n 0, 1) := by decide +kernel
theorem dX6_finish_50 : decode cX6_finish 50 = .ok (.getfield 22, 3) := by decide +kernel
theorem dX6_finish_53 : decode cX6_finish 53 = .ok (.putfield 18, 3) := by decide +kernel
theorem dX6_finish_56 : decode cX6_finish 56 = .ok (.aload_n 0, 1) := by decide +kernel
theorem dX6_finish_57 : decode cX6_finish 57 = .ok (.aload 4, 2) := by decide +kernel
theorem dX6_finish_59 : decode cX6_finish 59 = .ok (.putfield 22, 3) := by decide +kernel
theorem dX6_finish_62 : decode cX6_finish 62 = .ok (.aload_n 0, 1) := by decide +kernel
theorem dX6_finish_63 : decode cX6_finish 63 = .ok (.iconst 1, 1) := by decide +kernel
theorem dX6_finish_64 : decode cX6_finish 64 = .ok (.putfield 25, 3) := by decide +kernel
theorem dX6_finish_67 : decode cX6_finish 67 = .ok (.aload_n 0, 1) := by decide +kernel
theorem dX6_finish_68 : decode cX6_finish 68 = .ok (.aload_n 0, 1) := by decide +kernel
theorem dX6_finish_69 : decode cX6_finish 69 = .ok (.getfield 33, 3) := by decide +kernel
theorem dX6_finish_72 : decode cX6_finish 72 = .ok (.putfield 29, 3) := by decide +kernel
theorem dX6_finish_75 : decode cX6_finish 75 = .ok (.aload_n 0, 1) := by decide +kernel
theorem dX6_finish_76 : decode cX6_finish 76 = .ok (.getfield 33, 3) := by decide +kernel
theorem dX6_finish_79 : decode cX6_finish 79 = .ok (.ireturn, 1) := by decide +kernel
theorem dX6_byteAt_0 : decode cX6_byteAt 0 = .ok (.iload_n 1, 1) := by decide +kernel
theorem dX6_byteAt_1 : decode cX6_byteAt 1 = .ok (.ifCond .lt 11, 3) := by decide +kernel
theorem dX6_byteAt_4 : decode cX6_byteAt 4 = .ok (.iload_n 1, 1) := by decide +kernel
theorem dX6_byteAt_5 : decode cX6_byteAt 5 = .ok (.aload_n 0, 1) := by decide +kernel
theorem dX6_byteAt_6 : decode cX6_byteAt 6 = .ok (.getfield 29, 3) := by decide +kernel
theorem dX6_byteAt_9 : decode cX6_byteAt 9 = .ok (.if_icmp .lt 7, 3) := by decide +kernel
theorem dX6_byteAt_12 : decode cX6_byteAt 12 = .ok (.iconst (-1), 1) := by decide +kernel
theorem dX6_byteAt_13 : decode cX6_byteAt 13 = .ok (.goto 13, 3) := by decide +kernel
theorem dX6_byteAt_26 : decode cX6_byteAt 26 = .ok (.ireturn, 1) := by decide +kernel
theorem dX6_tallyOf_0 : decode cX6_tallyOf 0 = .ok (.aload_n 0, 1) := by decide +kernel
theorem dX6_tallyOf_1 : decode cX6_tallyOf 1 = .ok (.getfield 25, 3) := by decide +kernel
theorem dX6_tallyOf_4 : decode cX6_tallyOf 4 = .ok (.ifCond .eq 12, 3) := by decide +kernel
theorem dX6_tallyOf_16 : decode cX6_tallyOf 16 = .ok (.iconst (-1), 1) := by decide +kernel
theorem dX6_tallyOf_17 : decode cX6_tallyOf 17 = .ok (.goto 9, 3) := by decide +kernel
theorem dX6_tallyOf_26 : decode cX6_tallyOf 26 = .ok (.ireturn, 1) := by decide +kernel
theorem dX6_append_0 : decode cX6_append 0 = .ok (.aload_n 0, 1) := by decide +kernel
theorem dX6_append_1 : decode cX6_append 1 = .ok (.getfield 39, 3) := by decide +kernel
theorem dX6_append_4 : decode cX6_append 4 = .ok (.ifCond .eq 15, 3) := by decide +kernel
theorem dX6_append_7 : decode cX6_append 7 = .ok (.iload_n 3, 1) := by decide +kernel
theorem dX6_append_8 : decode cX6_append 8 = .ok (.sipush 2500, 3) := by decide +kernel
theorem dX6_append_11 : decode cX6_append 11 = .ok (.aload_n 0, 1) := by decide +kernel
theorem dX6_append_12 : decode cX6_append 12 = .ok (.getfield 33, 3) := by decide +kernel
theorem dX6_append_15 : decode cX6_append 15 = .ok (.isub, 1) := by decide +kernel
theorem dX6_append_16 : decode cX6_append 16 = .ok (.if_icmp .le 9, 3) := by decide +kernel
theorem dX6_append_25 : decode cX6_append 25 = .ok (.aload_n 1, 1) := by decide +kernel
theorem dX6_append_26 : decode cX6_append 26 = .ok (.iload_n 2, 1) := by decide +kernel
theorem dX6_append_27 : decode cX6_append 27 = .ok (.aload_n 0, 1) := by decide +kernel
theorem dX6_append_28 : decode cX6_append 28 = .ok (.getfield 15, 3) := by decide +kernel
theorem dX6_append_31 : decode cX6_append 31 = .ok (.aload_n 0, 1) := by decide +kernel
theorem dX6_append_32 : decode cX6_append 32 = .ok (.getfield 33, 3) := by decide +kernel
theorem dX6_append_35 : decode cX6_append 35 = .ok (.iload_n 3, 1) := by decide +kernel
theorem dX6_append_36 : decode cX6_append 36 = .ok (.invokestatic 81, 3) := by decide +kernel
theorem dX6_append_39 : decode cX6_append 39 = .ok (.aload_n 0, 1) := by decide +kernel
theorem dX6_append_40 : decode cX6_append 40 = .ok (.dup, 1) := by decide +kernel
theorem dX6_append_41 : decode cX6_append 41 = .ok (.getfield 33, 3) := by decide +kernel
theorem dX6_append_44 : decode cX6_append 44 = .ok (.iload_n 3, 1) := by decide +kernel
theorem dX6_append_45 : decode cX6_append 45 = .ok (.iadd, 1) := by decide +kernel
theorem dX6_append_46 : decode cX6_append 46 = .ok (.putfield 33, 3) := by decide +kernel
theorem dX6_append_49 : decode cX6_append 49 = .ok (.return_, 1) := by decide +kernel
theorem dX7_init_0 : decode cX7_init 0 = .ok (.aload_n 0, 1) := by decide +kernel
theorem dX7_init_1 : decode cX7_init 1 = .ok (.invokespecial 3, 3) := by decide +kernel
theorem dX7_init_4 : decode cX7_init 4 = .ok (.aload_n 0, 1) := by decide +kernel
theorem dX7_init_5 : decode cX7_init 5 = .ok (.sipush 2000, 3) := by decide +kernel
theorem dX7_init_8 : decode cX7_init 8 = .ok (.newarray .byte, 2) := by decide +kernel
theorem dX7_init_10 : decode cX7_init 10 = .ok (.putfield 9, 3) := by decide +kernel
theorem dX7_init_13 : decode cX7_init 13 = .ok (.aload_n 0, 1) := by decide +kernel
theorem dX7_init_14 : decode cX7_init 14 = .ok (.iconst 0, 1) := by decide +kernel
theorem dX7_init_15 : decode cX7_init 15 = .ok (.putfield 15, 3) := by decide +kernel
theorem dX7_init_18 : decode cX7_init 18 = .ok (.return_, 1) := by decide +kernel
theorem dX7_append_0 : decode cX7_append 0 = .ok (.bipush 24, 2) := by decide +kernel
theorem dX7_append_2 : decode cX7_append 2 = .ok (.istore_n 2, 1) := by decide +kernel
theorem dX7_append_3 : decode cX7_append 3 = .ok (.iload_n 2, 1) := by decide +kernel
theorem dX7_append_4 : decode cX7_append 4 = .ok (.ifCond .lt 42, 3) := by decide +kernel
theorem dX7_append_7 : decode cX7_append 7 = .ok (.aload_n 0, 1) := by decide +kernel
theorem dX7_append_8 : decode cX7_append 8 = .ok (.getfield 15, 3) := by decide +kernel
theorem dX7_append_11 : decode cX7_append 11 = .ok (.sipush 2000, 3) := by decide +kernel
theorem dX7_append_14 : decode cX7_append 14 = .ok (.if_icmp .ge 32, 3) := by decide +kernel
theorem dX7_append_17 : decode cX7_append 17 = .ok (.aload_n 0, 1) := by decide +kernel
theorem dX7_append_18 : decode cX7_append 18 = .ok (.getfield 9, 3) := by decide +kernel
theorem dX7_append_21 : decode cX7_append 21 = .ok (.aload_n 0, 1) := by decide +kernel
theorem dX7_append_22 : decode cX7_append 22 = .ok (.getfield 15, 3) := by decide +kernel
theorem dX7_append_25 : decode cX7_append 25 = .ok (.iload_n 1, 1) := by decide +kernel
theorem dX7_append_26 : decode cX7_append 26 = .ok (.iload_n 2, 1) := by decide +kernel
theorem dX7_append_27 : decode cX7_append 27 = .ok (.ishr, 1) := by decide +kernel
theorem dX7_append_28 : decode cX7_append 28 = .ok (.i2b, 1) := by decide +kernel
theorem dX7_append_29 : decode cX7_append 29 = .ok (.bastore, 1) := by decide +kernel
theorem dX7_append_30 : decode cX7_append 30 = .ok (.aload_n 0, 1) := by decide +kernel
theorem dX7_append_31 : decode cX7_append 31 = .ok (.dup, 1) := by decide +kernel
theorem dX7_append_32 : decode cX7_append 32 = .ok (.getfield 15, 3) := by decide +kernel
theorem dX7_append_35 : decode cX7_append 35 = .ok (.iconst 1, 1) := by decide +kernel
theorem dX7_append_36 : decode cX7_append 36 = .ok (.iadd, 1) := by decide +kernel
theorem dX7_append_37 : decode cX7_append 37 = .ok (.putfield 15, 3) := by decide +kernel
theorem dX7_append_40 : decode cX7_append 40 = .ok (.iinc 2 (-8), 3) := by decide +kernel
end
section
theorem dX7_append_43 : decode cX7_append 43 = .ok (.goto (-40), 3) := by decide +kernel
theorem dX7_append_46 : decode cX7_append 46 = .ok (.return_, 1) := by decide +kernel
theorem dX7_take_0 : decode cX7_take 0 = .ok (.aload_n 0, 1) := by decide +kernel
theorem dX7_take_1 : decode cX7_take 1 = .ok (.getfield 15, 3) := by decide +kernel
theorem dX7_take_4 : decode cX7_take 4 = .ok (.istore_n 1, 1) := by decide +kernel
theorem dX7_take_5 : decode cX7_take 5 = .ok (.aload_n 0, 1) := by decide +kernel
theorem dX7_take_6 : decode cX7_take 6 = .ok (.iconst 0, 1) := by decide +kernel
theorem dX7_take_7 : decode cX7_take 7 = .ok (.putfield 15, 3) := by decide +kernel
theorem dX7_take_10 : decode cX7_take 10 = .ok (.iload_n 1, 1) := by decide +kernel
theorem dX7_take_11 : decode cX7_take 11 = .ok (.ireturn, 1) := by decide +kernel
theorem dX7_isWord_0 : decode cX7_isWord 0 = .ok (.iload_n 1, 1) := by decide +kernel
theorem dX7_isWord_1 : decode cX7_isWord 1 = .ok (.iconst 1, 1) := by decide +kernel
theorem dX7_isWord_2 : decode cX7_isWord 2 = .ok (.if_icmp .lt 9, 3) := by decide +kernel
theorem dX7_isWord_11 : decode cX7_isWord 11 = .ok (.iconst 0, 1) := by decide +kernel
theorem dX7_isWord_12 : decode cX7_isWord 12 = .ok (.ireturn, 1) := by decide +kernel
set_option maxRecDepth 20000 in
theorem ggX7_hasZero_X7_occurrences : GoodIn wsX7_hasZero wsX7_occurrences := goodIn_r _ [5, 6, 7, 8] (by decide +kernel) (by decide +kernel)
set_option maxRecDepth 20000 in
theorem gX7_hasZero_X7_occurrences : GoodIn wsX7_hasZero (wsV RX7 25 RX7 yX7_occurrences wsX7_occurrences) := goodIn_app (goodIn_of _ (by decide +kernel)) ggX7_hasZero_X7_occurrences
theorem dX7_hasZero_0 : decode cX7_hasZero 0 = .ok (.aload_n 0, 1) := by decide +kernel
theorem dX7_hasZero_1 : decode cX7_hasZero 1 = .ok (.iconst 0, 1) := by decide +kernel
theorem dX7_hasZero_2 : decode cX7_hasZero 2 = .ok (.iload_n 1, 1) := by decide +kernel
theorem dX7_hasZero_3 : decode cX7_hasZero 3 = .ok (.invokevirtual 25, 3) := by decide +kernel
theorem dX7_hasZero_6 : decode cX7_hasZero 6 = .ok (.ifCond .le 7, 3) := by decide +kernel
theorem dX7_hasZero_13 : decode cX7_hasZero 13 = .ok (.iconst 0, 1) := by decide +kernel
theorem dX7_hasZero_14 : decode cX7_hasZero 14 = .ok (.ireturn, 1) := by decide +kernel
set_option maxRecDepth 20000 in
theorem ggX7_lines_X7_occurrences : GoodIn wsX7_lines wsX7_occurrences := goodIn_r _ [5, 6, 7, 8] (by decide +kernel) (by decide +kernel)
set_option maxRecDepth 20000 in
theorem gX7_lines_X7_occurrences : GoodIn wsX7_lines (wsV RX7 25 RX7 yX7_occurrences wsX7_occurrences) := goodIn_app (goodIn_of _ (by decide +kernel)) ggX7_lines_X7_occurrences
theorem dX7_lines_0 : decode cX7_lines 0 = .ok (.iconst 1, 1) := by decide +kernel
theorem dX7_lines_1 : decode cX7_lines 1 = .ok (.aload_n 0, 1) := by decide +kernel
theorem dX7_lines_2 : decode cX7_lines 2 = .ok (.bipush 10, 2) := by decide +kernel
theorem dX7_lines_4 : decode cX7_lines 4 = .ok (.iload_n 1, 1) := by decide +kernel
theorem dX7_lines_5 : decode cX7_lines 5 = .ok (.invokevirtual 25, 3) := by decide +kernel
theorem dX7_lines_8 : decode cX7_lines 8 = .ok (.iadd, 1) := by decide +kernel
theorem dX7_lines_9 : decode cX7_lines 9 = .ok (.ireturn, 1) := by decide +kernel
theorem dX7_occurrences_0 : decode cX7_occurrences 0 = .ok (.iconst 0, 1) := by decide +kernel
theorem dX7_occurrences_1 : decode cX7_occurrences 1 = .ok (.istore_n 3, 1) := by decide +kernel
theorem dX7_occurrences_2 : decode cX7_occurrences 2 = .ok (.iconst 0, 1) := by decide +kernel
theorem dX7_occurrences_3 : decode cX7_occurrences 3 = .ok (.istore 4, 2) := by decide +kernel
theorem dX7_occurrences_5 : decode cX7_occurrences 5 = .ok (.iload 4, 2) := by decide +kernel
theorem dX7_occurrences_7 : decode cX7_occurrences 7 = .ok (.iload_n 2, 1) := by decide +kernel
theorem dX7_occurrences_8 : decode cX7_occurrences 8 = .ok (.if_icmp .ge 31, 3) := by decide +kernel
theorem dX7_occurrences_39 : decode cX7_occurrences 39 = .ok (.iload_n 3, 1) := by decide +kernel
theorem dX7_occurrences_40 : decode cX7_occurrences 40 = .ok (.ireturn, 1) := by decide +kernel
theorem dX8_init_0 : decode cX8_init 0 = .ok (.aload_n 0, 1) := by decide +kernel
theorem dX8_init_1 : decode cX8_init 1 = .ok (.invokespecial 3, 3) := by decide +kernel
theorem dX8_init_4 : decode cX8_init 4 = .ok (.aload_n 0, 1) := by decide +kernel
theorem dX8_init_5 : decode cX8_init 5 = .ok (.iconst 0, 1) := by decide +kernel
theorem dX8_init_6 : decode cX8_init 6 = .ok (.putfield 9, 3) := by decide +kernel
theorem dX8_init_9 : decode cX8_init 9 = .ok (.aload_n 0, 1) := by decide +kernel
theorem dX8_init_10 : decode cX8_init 10 = .ok (.iconst 0, 1) := by decide +kernel
theorem dX8_init_11 : decode cX8_init 11 = .ok (.putfield 15, 3) := by decide +kernel
theorem dX8_init_14 : decode cX8_init 14 = .ok (.aload_n 0, 1) := by decide +kernel
theorem dX8_init_15 : decode cX8_init 15 = .ok (.iconst 0, 1) := by decide +kernel
theorem dX8_init_16 : decode cX8_init 16 = .ok (.putfield 18, 3) := by decide +kernel
theorem dX8_init_19 : decode cX8_init 19 = .ok (.aload_n 0, 1) := by decide +kernel
theorem dX8_init_20 : decode cX8_init 20 = .ok (.iconst 0, 1) := by decide +kernel
theorem dX8_init_21 : decode cX8_init 21 = .ok (.putfield 21, 3) := by decide +kernel
theorem dX8_init_24 : decode cX8_init 24 = .ok (.aload_n 0, 1) := by decide +kernel
theorem dX8_init_25 : decode cX8_init 25 = .ok (.iconst 0, 1) := by decide +kernel
theorem dX8_init_26 : decode cX8_init 26 = .ok (.newarray .byte, 2) := by decide +kernel
theorem dX8_init_28 : decode cX8_init 28 = .ok (.putfield 25, 3) := by decide +kernel
theorem dX8_init_31 : decode cX8_init 31 = .ok (.aload_n 0, 1) := by decide +kernel
theorem dX8_init_32 : decode cX8_init 32 = .ok (.iconst 0, 1) := by decide +kernel
theorem dX8_init_33 : decode cX8_init 33 = .ok (.putfield 29, 3) := by decide +kernel
theorem dX8_init_36 : decode cX8_init 36 = .ok (.aload_n 0, 1) := by decide +kernel
theorem dX8_init_37 : decode cX8_init 37 = .ok (.iconst 0, 1) := by decide +kernel
theorem dX8_init_38 : decode cX8_init 38 = .ok (.putfield 32, 3) := by decide +kernel
theorem dX8_init_41 : decode cX8_init 41 = .ok (.aload_n 0, 1) := by decide +kernel
theorem dX8_init_42 : decode cX8_init 42 = .ok (.iconst 0, 1) := by decide +kernel
theorem dX8_init_43 : decode cX8_init 43 = .ok (.putfield 35, 3) := by decide +kernel
theorem dX8_init_46 : decode cX8_init 46 = .ok (.return_, 1) := by decide +kernel
theorem dX8_begin_0 : decode cX8_begin 0 = .ok (.aload_n 0, 1) := by decide +kernel
theorem dX8_begin_1 : decode cX8_begin 1 = .ok (.aload_n 1, 1) := by decide +kernel
theorem dX8_begin_2 : decode cX8_begin 2 = .ok (.putfield 25, 3) := by decide +kernel
theorem dX8_begin_5 : decode cX8_begin 5 = .ok (.aload_n 0, 1) := by decide +kernel
theorem dX8_begin_6 : decode cX8_begin 6 = .ok (.iload_n 2, 1) := by decide +kernel
theorem dX8_begin_7 : decode cX8_begin 7 = .ok (.aload_n 1, 1) := by decide +kernel
theorem dX8_begin_8 : decode cX8_begin 8 = .ok (.arraylength, 1) := by decide +kernel
theorem dX8_begin_9 : decode cX8_begin 9 = .ok (.invokestatic 38, 3) := by decide +kernel
theorem dX8_begin_12 : decode cX8_begin 12 = .ok (.putfield 29, 3) := by decide +kernel
theorem dX8_begin_15 : decode cX8_begin 15 = .ok (.aload_n 0, 1) := by decide +kernel
theorem dX8_begin_16 : decode cX8_begin 16 = .ok (.iconst 0, 1) := by decide +kernel
theorem dX8_begin_17 : decode cX8_begin 17 = .ok (.putfield 32, 3) := by decide +kernel
theorem dX8_begin_20 : decode cX8_begin 20 = .ok (.aload_n 0, 1) := by decide +kernel
theorem dX8_begin_21 : decode cX8_begin 21 = .ok (.iconst 0, 1) := by decide +kernel
theorem dX8_begin_22 : decode cX8_begin 22 = .ok (.putfield 18, 3) := by decide +kernel
theorem dX8_begin_25 : decode cX8_begin 25 = .ok (.aload_n 0, 1) := by decide +kernel
theorem dX8_begin_26 : decode cX8_begin 26 = .ok (.iconst 0, 1) := by decide +kernel
theorem dX8_begin_27 : decode cX8_begin 27 = .ok (.putfield 35, 3) := by decide +kernel
theorem dX8_begin_30 : decode cX8_begin 30 = .ok (.return_, 1) := by decide +kernel
set_option maxRecDepth 20000 in
theorem ggX9_init_X3_init : GoodIn wsX9_init wsX3_init := goodIn_r _ [20, 21, 2, 3, 22, 23, 24, 8, 25, 26, 27, 28, 29, 30, 15, 16, 31, 32, 33, 34, 35, 36, 37, 38, 39, 41, 42, 43, 44, 45, 46, 47, 56, 57, 58, 59] (by decide +kernel) (by decide +kernel)
set_option maxRecDepth 20000 in
theorem gX9_init_X3_init_n11 : GoodIn wsX9_init (wsX3_init) := ggX9_init_X3_init
set_option maxRecDepth 20000 in
theorem ggX9_init_X10_init : GoodIn wsX9_init wsX10_init := goodIn_r _ [34, 35, 2, 3, 36, 37, 8, 38, 23, 39, 56, 57, 58, 59] (by decide +kernel) (by decide +kernel)
set_option maxRecDepth 20000 in
theorem gX9_init_X10_init : GoodIn wsX9_init (wsX10_init) := ggX9_init_X10_init
theorem dX9_init_0 : decode cX9_init 0 = .ok (.aload_n 0, 1) := by decide +kernel
theorem dX9_init_1 : decode cX9_init 1 = .ok (.invokespecial 3, 3) := by decide +kernel
theorem dX9_init_4 : decode cX9_init 4 = .ok (.aload_n 0, 1) := by decide +kernel
theorem dX9_init_5 : decode cX9_init 5 = .ok (.new 9, 3) := by decide +kernel
theorem dX9_init_8 : decode cX9_init 8 = .ok (.dup, 1) := by decide +kernel
theorem dX9_init_9 : decode cX9_init 9 = .ok (.invokespecial 11, 3) := by decide +kernel
theorem dX9_init_12 : decode cX9_init 12 = .ok (.putfield 12, 3) := by decide +kernel
theorem dX9_init_15 : decode cX9_init 15 = .ok (.aload_n 0, 1) := by decide +kernel
theorem dX9_init_16 : decode cX9_init 16 = .ok (.bipush 40, 2) := by decide +kernel
theorem dX9_init_18 : decode cX9_init 18 = .ok (.newarray .byte, 2) := by decide +kernel
theorem dX9_init_20 : decode cX9_init 20 = .ok (.putfield 18, 3) := by decide +kernel
theorem dX9_init_23 : decode cX9_init 23 = .ok (.aload_n 0, 1) := by decide +kernel
theorem dX9_init_24 : decode cX9_init 24 = .ok (.bipush 40, 2) := by decide +kernel
theorem dX9_init_26 : decode cX9_init 26 = .ok (.newarray .byte, 2) := by decide +kernel
theorem dX9_init_28 : decode cX9_init 28 = .ok (.putfield 22, 3) := by decide +kernel
theorem dX9_init_31 : decode cX9_init 31 = .ok (.aload_n 0, 1) := by decide +kernel
theorem dX9_init_32 : decode cX9_init 32 = .ok (.iconst 0, 1) := by decide +kernel
theorem dX9_init_33 : decode cX9_init 33 = .ok (.putfield 25, 3) := by decide +kernel
theorem dX9_init_36 : decode cX9_init 36 = .ok (.aload_n 0, 1) := by decide +kernel
theorem dX9_init_37 : decode cX9_init 37 = .ok (.lconst 0, 1) := by decide +kernel
theorem dX9_init_38 : decode cX9_init 38 = .ok (.putfield 29, 3) := by decide +kernel
theorem dX9_init_41 : decode cX9_init 41 = .ok (.aload_n 0, 1) := by decide +kernel
theorem dX9_init_42 : decode cX9_init 42 = .ok (.bipush 24, 2) := by decide +kernel
theorem dX9_init_44 : decode cX9_init 44 = .ok (.newarray .byte, 2) := by decide +kernel
theorem dX9_init_46 : decode cX9_init 46 = .ok (.putfield 33, 3) := by decide +kernel
theorem dX9_init_49 : decode cX9_init 49 = .ok (.aload_n 0, 1) := by decide +kernel
theorem dX9_init_50 : decode cX9_init 50 = .ok (.new 36, 3) := by decide +kernel
theorem dX9_init_53 : decode cX9_init 53 = .ok (.dup, 1) := by decide +kernel
theorem dX9_init_54 : decode cX9_init 54 = .ok (.bipush 12, 2) := by decide +kernel
theorem dX9_init_56 : decode cX9_init 56 = .ok (.bipush 24, 2) := by decide +kernel
theorem dX9_init_58 : decode cX9_init 58 = .ok (.invokespecial 38, 3) := by decide +kernel
theorem dX9_init_61 : decode cX9_init 61 = .ok (.putfield 41, 3) := by decide +kernel
theorem dX9_init_64 : decode cX9_init 64 = .ok (.aload_n 0, 1) := by decide +kernel
theorem dX9_init_65 : decode cX9_init 65 = .ok (.new 36, 3) := by decide +kernel
theorem dX9_init_68 : decode cX9_init 68 = .ok (.dup, 1) := by decide +kernel
theorem dX9_init_69 : decode cX9_init 69 = .ok (.bipush 12, 2) := by decide +kernel
theorem dX9_init_71 : decode cX9_init 71 = .ok (.bipush 24, 2) := by decide +kernel
theorem dX9_init_73 : decode cX9_init 73 = .ok (.invokespecial 38, 3) := by decide +kernel
theorem dX9_init_76 : decode cX9_init 76 = .ok (.putfield 45, 3) := by decide +kernel
theorem dX9_init_79 : decode cX9_init 79 = .ok (.return_, 1) := by decide +kernel
theorem dX9_turnParts_0 : decode cX9_turnParts 0 = .ok (.aload_n 1, 1) := by decide +kernel
theorem dX9_turnParts_1 : decode cX9_turnParts 1 = .ok (.getfield 48, 3) := by decide +kernel
theorem dX9_turnParts_4 : decode cX9_turnParts 4 = .ok (.astore_n 2, 1) := by decide +kernel
theorem dX9_turnParts_5 : decode cX9_turnParts 5 = .ok (.iconst 0, 1) := by decide +kernel
theorem dX9_turnParts_6 : decode cX9_turnParts 6 = .ok (.istore_n 3, 1) := by decide +kernel
theorem dX9_turnParts_7 : decode cX9_turnParts 7 = .ok (.iload_n 3, 1) := by decide +kernel
theorem dX9_turnParts_8 : decode cX9_turnParts 8 = .ok (.aload_n 2, 1) := by decide +kernel
theorem dX9_turnParts_9 : decode cX9_turnParts 9 = .ok (.getfield 53, 3) := by decide +kernel
theorem dX9_turnParts_12 : decode cX9_turnParts 12 = .ok (.if_icmp .ge 75, 3) := by decide +kernel
theorem dX9_turnParts_87 : decode cX9_turnParts 87 = .ok (.return_, 1) := by decide +kernel
theorem dX10_init_0 : decode cX10_init 0 = .ok (.aload_n 0, 1) := by decide +kernel
theorem dX10_init_1 : decode cX10_init 1 = .ok (.invokespecial 3, 3) := by decide +kernel
theorem dX10_init_4 : decode cX10_init 4 = .ok (.aload_n 0, 1) := by decide +kernel
theorem dX10_init_5 : decode cX10_init 5 = .ok (.iconst 0, 1) := by decide +kernel
theorem dX10_init_6 : decode cX10_init 6 = .ok (.putfield 9, 3) := by decide +kernel
theorem dX10_init_9 : decode cX10_init 9 = .ok (.aload_n 0, 1) := by decide +kernel
theorem dX10_init_10 : decode cX10_init 10 = .ok (.iload_n 2, 1) := by decide +kernel
theorem dX10_init_11 : decode cX10_init 11 = .ok (.putfield 15, 3) := by decide +kernel
theorem dX10_init_14 : decode cX10_init 14 = .ok (.aload_n 0, 1) := by decide +kernel
theorem dX10_init_15 : decode cX10_init 15 = .ok (.iload_n 1, 1) := by decide +kernel
theorem dX10_init_16 : decode cX10_init 16 = .ok (.iload_n 2, 1) := by decide +kernel
theorem dX10_init_17 : decode cX10_init 17 = .ok (.imul, 1) := by decide +kernel
theorem dX10_init_18 : decode cX10_init 18 = .ok (.newarray .byte, 2) := by decide +kernel
theorem dX10_init_20 : decode cX10_init 20 = .ok (.putfield 18, 3) := by decide +kernel
theorem dX10_init_23 : decode cX10_init 23 = .ok (.aload_n 0, 1) := by decide +kernel
theorem dX10_init_24 : decode cX10_init 24 = .ok (.iload_n 1, 1) := by decide +kernel
theorem dX10_init_25 : decode cX10_init 25 = .ok (.newarray .int, 2) := by decide +kernel
theorem dX10_init_27 : decode cX10_init 27 = .ok (.putfield 22, 3) := by decide +kernel
theorem dX10_init_30 : decode cX10_init 30 = .ok (.return_, 1) := by decide +kernel
theorem dX10_letterAt_0 : decode cX10_letterAt 0 = .ok (.iload_n 1, 1) := by decide +kernel
theorem dX10_letterAt_1 : decode cX10_letterAt 1 = .ok (.ifCond .lt 25, 3) := by decide +kernel
theorem dX10_letterAt_4 : decode cX10_letterAt 4 = .ok (.iload_n 1, 1) := by decide +kernel
theorem dX10_letterAt_5 : decode cX10_letterAt 5 = .ok (.aload_n 0, 1) := by decide +kernel
theorem dX10_letterAt_6 : decode cX10_letterAt 6 = .ok (.getfield 9, 3) := by decide +kernel
theorem dX10_letterAt_9 : decode cX10_letterAt 9 = .ok (.if_icmp .ge 17, 3) := by decide +kernel
theorem dX10_letterAt_26 : decode cX10_letterAt 26 = .ok (.iconst (-1), 1) := by decide +kernel
theorem dX10_letterAt_27 : decode cX10_letterAt 27 = .ok (.ireturn, 1) := by decide +kernel
set_option maxRecDepth 20000 in
theorem ggX11_init_X7_init : GoodIn wsX11_init wsX7_init := goodIn_r _ [53, 54, 2, 3, 55, 56, 57, 166, 167] (by decide +kernel) (by decide +kernel)
set_option maxRecDepth 20000 in
theorem gX11_init_X7_init_n11 : GoodIn wsX11_init (wsX7_init) := ggX11_init_X7_init
set_option maxRecDepth 20000 in
theorem ggX11_init_X5_init : GoodIn wsX11_init wsX5_init := goodIn_r _ [59, 60, 2, 3, 61, 62, 63, 64, 65, 24, 25, 66, 67, 68, 69, 70, 71, 72, 73, 74, 75, 76, 77, 78, 79, 80, 81, 55, 82, 35, 83, 185, 186, 187, 188, 189, 190, 191, 192, 193, 194, 195, 213, 214, 215, 216] (by decide +kernel) (by decide +kernel)
set_option maxRecDepth 20000 in
theorem gX11_init_X5_init_n29 : GoodIn wsX11_init (wsX5_init) := ggX11_init_X5_init
set_option maxRecDepth 20000 in
theorem ggX11_init_X4_init : GoodIn wsX11_init wsX4_init := goodIn_r _ [85, 86, 2, 3, 87, 88, 55, 89, 90, 91, 92, 93, 94, 95, 196, 197, 198, 199, 200, 201, 202, 203, 204] (by decide +kernel) (by decide +kernel)
set_option maxRecDepth 20000 in
theorem gX11_init_X4_init_n36 : GoodIn wsX11_init (wsX4_init) := ggX11_init_X4_init
set_option maxRecDepth 20000 in
theorem ggX11_init_X9_init : GoodIn wsX11_init wsX9_init := goodIn_r _ [97, 98, 2, 3, 99, 28, 29, 100, 55, 101, 102, 103, 104, 105, 106, 24, 25, 107, 108, 109, 110, 111, 112, 35, 113, 114, 115, 69, 116, 117, 118, 119, 120, 77, 78, 79, 80, 81, 82, 83, 121, 217, 218, 219, 220, 221, 222, 223, 205, 206, 207, 208, 209, 210, 211, 212, 213, 214, 215, 216] (by decide +kernel) (by decide +kernel)
set_option maxRecDepth 20000 in
theorem gX11_init_X9_init_n43 : GoodIn wsX11_init (wsX9_init) := ggX11_init_X9_init
set_option maxRecDepth 20000 in
theorem ggX11_init_X10_init : GoodIn wsX11_init wsX10_init := goodIn_r _ [78, 79, 2, 3, 80, 81, 55, 82, 35, 83, 213, 214, 215, 216] (by decide +kernel) (by decide +kernel)
set_option maxRecDepth 20000 in
theorem gX11_init_X10_init : GoodIn wsX11_init (wsX10_init) := ggX11_init_X10_init
set_option maxRecDepth 20000 in
theorem ggX11_init_X3_init : GoodIn wsX11_init wsX3_init := goodIn_r _ [110, 111, 2, 3, 112, 35, 113, 55, 114, 115, 69, 116, 117, 118, 24, 25, 119, 120, 77, 78, 79, 80, 81, 82, 83, 217, 218, 219, 220, 221, 222, 223, 213, 214, 215, 216] (by decide +kernel) (by decide +kernel)
set_option maxRecDepth 20000 in
theorem gX11_init_X3_init_n59 : GoodIn wsX11_init (wsX3_init) := ggX11_init_X3_init
set_option maxRecDepth 20000 in
theorem ggX11_init_X0_init : GoodIn wsX11_init wsX0_init := goodIn_r _ [124, 125, 2, 3, 126, 24, 25, 127, 128, 74, 129, 35, 130, 131, 132, 133, 77, 78, 79, 80, 81, 55, 82, 83, 213, 214, 215, 216, 224, 225, 226, 227, 228, 229] (by decide +kernel) (by decide +kernel)
set_option maxRecDepth 20000 in
theorem gX11_init_X0_init_n66 : GoodIn wsX11_init (wsX0_init) := ggX11_init_X0_init
set_option maxRecDepth 20000 in
theorem ggX11_init_X8_init : GoodIn wsX11_init wsX8_init := goodIn_r _ [135, 136, 2, 3, 137, 138, 139, 140, 55, 141, 142, 143, 144, 230, 231, 232, 233, 234, 235, 236, 237] (by decide +kernel) (by decide +kernel)
set_option maxRecDepth 20000 in
theorem gX11_init_X8_init_n86 : GoodIn wsX11_init (wsX8_init) := ggX11_init_X8_init
set_option maxRecDepth 20000 in
theorem ggX11_init_X6_init : GoodIn wsX11_init wsX6_init := goodIn_r _ [146, 147, 2, 3, 55, 148, 149, 35, 150, 151, 152, 153, 154, 155, 156, 238, 239, 240, 241, 242, 243, 244, 245, 246] (by decide +kernel) (by decide +kernel)
set_option maxRecDepth 20000 in
theorem gX11_init_X6_init_n93 : GoodIn wsX11_init (wsX6_init) := ggX11_init_X6_init
set_option maxRecDepth 20000 in
theorem ggX11_init_X2_init : GoodIn wsX11_init wsX2_init := goodIn_r _ [158, 159, 2, 3, 35, 160, 161, 162, 163, 164, 165, 247, 248, 249, 250, 251, 252] (by decide +kernel) (by decide +kernel)
set_option maxRecDepth 20000 in
theorem gX11_init_X2_init_n100 : GoodIn wsX11_init (wsX2_init) := ggX11_init_X2_init
theorem dX11_init_0 : decode cX11_init 0 = .ok (.aload_n 0, 1) := by decide +kernel
theorem dX11_init_1 : decode cX11_init 1 = .ok (.invokespecial 3, 3) := by decide +kernel
theorem dX11_init_4 : decode cX11_init 4 = .ok (.aload_n 0, 1) := by decide +kernel
theorem dX11_init_5 : decode cX11_init 5 = .ok (.new 9, 3) := by decide +kernel
theorem dX11_init_8 : decode cX11_init 8 = .ok (.dup, 1) := by decide +kernel
theorem dX11_init_9 : decode cX11_init 9 = .ok (.invokespecial 11, 3) := by decide +kernel
theorem dX11_init_12 : decode cX11_init 12 = .ok (.putfield 12, 3) := by decide +kernel
theorem dX11_init_15 : decode cX11_init 15 = .ok (.aload_n 0, 1) := by decide +kernel
theorem dX11_init_16 : decode cX11_init 16 = .ok (.bipush 6, 2) := by decide +kernel
theorem dX11_init_18 : decode cX11_init 18 = .ok (.anewarray 16, 3) := by decide +kernel
theorem dX11_init_21 : decode cX11_init 21 = .ok (.putfield 18, 3) := by decide +kernel
theorem dX11_init_24 : decode cX11_init 24 = .ok (.aload_n 0, 1) := by decide +kernel
theorem dX11_init_25 : decode cX11_init 25 = .ok (.iconst 0, 1) := by decide +kernel
theorem dX11_init_26 : decode cX11_init 26 = .ok (.putfield 22, 3) := by decide +kernel
theorem dX11_init_29 : decode cX11_init 29 = .ok (.aload_n 0, 1) := by decide +kernel
theorem dX11_init_30 : decode cX11_init 30 = .ok (.iconst (-1), 1) := by decide +kernel
theorem dX11_init_31 : decode cX11_init 31 = .ok (.putfield 26, 3) := by decide +kernel
theorem dX11_init_34 : decode cX11_init 34 = .ok (.aload_n 0, 1) := by decide +kernel
theorem dX11_init_35 : decode cX11_init 35 = .ok (.new 16, 3) := by decide +kernel
theorem dX11_init_38 : decode cX11_init 38 = .ok (.dup, 1) := by decide +kernel
theorem dX11_init_39 : decode cX11_init 39 = .ok (.invokespecial 29, 3) := by decide +kernel
theorem dX11_init_42 : decode cX11_init 42 = .ok (.putfield 30, 3) := by decide +kernel
theorem dX11_init_45 : decode cX11_init 45 = .ok (.aload_n 0, 1) := by decide +kernel
theorem dX11_init_46 : decode cX11_init 46 = .ok (.new 34, 3) := by decide +kernel
theorem dX11_init_49 : decode cX11_init 49 = .ok (.dup, 1) := by decide +kernel
theorem dX11_init_50 : decode cX11_init 50 = .ok (.invokespecial 36, 3) := by decide +kernel
theorem dX11_init_53 : decode cX11_init 53 = .ok (.putfield 37, 3) := by decide +kernel
theorem dX11_init_56 : decode cX11_init 56 = .ok (.aload_n 0, 1) := by decide +kernel
theorem dX11_init_57 : decode cX11_init 57 = .ok (.new 41, 3) := by decide +kernel
theorem dX11_init_60 : decode cX11_init 60 = .ok (.dup, 1) := by decide +kernel
theorem dX11_init_61 : decode cX11_init 61 = .ok (.invokespecial 43, 3) := by decide +kernel
theorem dX11_init_64 : decode cX11_init 64 = .ok (.putfield 44, 3) := by decide +kernel
theorem dX11_init_67 : decode cX11_init 67 = .ok (.aload_n 0, 1) := by decide +kernel
theorem dX11_init_68 : decode cX11_init 68 = .ok (.new 48, 3) := by decide +kernel
theorem dX11_init_71 : decode cX11_init 71 = .ok (.dup, 1) := by decide +kernel
theorem dX11_init_72 : decode cX11_init 72 = .ok (.bipush 12, 2) := by decide +kernel
theorem dX11_init_74 : decode cX11_init 74 = .ok (.bipush 24, 2) := by decide +kernel
theorem dX11_init_76 : decode cX11_init 76 = .ok (.invokespecial 50, 3) := by decide +kernel
theorem dX11_init_79 : decode cX11_init 79 = .ok (.putfield 53, 3) := by decide +kernel
theorem dX11_init_82 : decode cX11_init 82 = .ok (.aload_n 0, 1) := by decide +kernel
theorem dX11_init_83 : decode cX11_init 83 = .ok (.new 57, 3) := by decide +kernel
theorem dX11_init_86 : decode cX11_init 86 = .ok (.dup, 1) := by decide +kernel
theorem dX11_init_87 : decode cX11_init 87 = .ok (.invokespecial 59, 3) := by decide +kernel
theorem dX11_init_90 : decode cX11_init 90 = .ok (.putfield 60, 3) := by decide +kernel
theorem dX11_init_93 : decode cX11_init 93 = .ok (.aload_n 0, 1) := by decide +kernel
theorem dX11_init_94 : decode cX11_init 94 = .ok (.new 64, 3) := by decide +kernel
theorem dX11_init_97 : decode cX11_init 97 = .ok (.dup, 1) := by decide +kernel
theorem dX11_init_98 : decode cX11_init 98 = .ok (.invokespecial 66, 3) := by decide +kernel
theorem dX11_init_101 : decode cX11_init 101 = .ok (.putfield 67, 3) := by decide +kernel
theorem dX11_init_104 : decode cX11_init 104 = .ok (.aload_n 0, 1) := by decide +kernel
theorem dX11_init_105 : decode cX11_init 105 = .ok (.bipush 100, 2) := by decide +kernel
theorem dX11_init_107 : decode cX11_init 107 = .ok (.newarray .int, 2) := by decide +kernel
theorem dX11_init_109 : decode cX11_init 109 = .ok (.putfield 71, 3) := by decide +kernel
theorem dX11_init_112 : decode cX11_init 112 = .ok (.aload_n 0, 1) := by decide +kernel
theorem dX11_init_113 : decode cX11_init 113 = .ok (.iconst 0, 1) := by decide +kernel
theorem dX11_init_114 : decode cX11_init 114 = .ok (.putfield 75, 3) := by decide +kernel
theorem dX11_init_117 : decode cX11_init 117 = .ok (.aload_n 0, 1) := by decide +kernel
theorem dX11_init_118 : decode cX11_init 118 = .ok (.sipush 200, 3) := by decide +kernel
theorem dX11_init_121 : decode cX11_init 121 = .ok (.newarray .int, 2) := by decide +kernel
theorem dX11_init_123 : decode cX11_init 123 = .ok (.putfield 78, 3) := by decide +kernel
theorem dX11_init_126 : decode cX11_init 126 = .ok (.aload_n 0, 1) := by decide +kernel
theorem dX11_init_127 : decode cX11_init 127 = .ok (.iconst 0, 1) := by decide +kernel
theorem dX11_init_128 : decode cX11_init 128 = .ok (.putfield 81, 3) := by decide +kernel
theorem dX11_init_131 : decode cX11_init 131 = .ok (.aload_n 0, 1) := by decide +kernel
theorem dX11_init_132 : decode cX11_init 132 = .ok (.new 84, 3) := by decide +kernel
theorem dX11_init_135 : decode cX11_init 135 = .ok (.dup, 1) := by decide +kernel
theorem dX11_init_136 : decode cX11_init 136 = .ok (.invokespecial 86, 3) := by decide +kernel
theorem dX11_init_139 : decode cX11_init 139 = .ok (.putfield 87, 3) := by decide +kernel
theorem dX11_init_142 : decode cX11_init 142 = .ok (.aload_n 0, 1) := by decide +kernel
theorem dX11_init_143 : decode cX11_init 143 = .ok (.new 91, 3) := by decide +kernel
theorem dX11_init_146 : decode cX11_init 146 = .ok (.dup, 1) := by decide +kernel
theorem dX11_init_147 : decode cX11_init 147 = .ok (.invokespecial 93, 3) := by decide +kernel
theorem dX11_init_150 : decode cX11_init 150 = .ok (.putfield 94, 3) := by decide +kernel
theorem dX11_init_153 : decode cX11_init 153 = .ok (.aload_n 0, 1) := by decide +kernel
theorem dX11_init_154 : decode cX11_init 154 = .ok (.new 98, 3) := by decide +kernel
theorem dX11_init_157 : decode cX11_init 157 = .ok (.dup, 1) := by decide +kernel
theorem dX11_init_158 : decode cX11_init 158 = .ok (.invokespecial 100, 3) := by decide +kernel
theorem dX11_init_161 : decode cX11_init 161 = .ok (.putfield 101, 3) := by decide +kernel
theorem dX11_init_164 : decode cX11_init 164 = .ok (.return_, 1) := by decide +kernel
set_option maxRecDepth 20000 in
theorem ggX11_feed_X7_append : GoodIn wsX11_feed wsX7_append := goodIn_r _ [7, 8, 9, 27, 28] (by decide +kernel) (by decide +kernel)
set_option maxRecDepth 20000 in
theorem gX11_feed_X7_append : GoodIn wsX11_feed (wsV RX11 108 RX7 yX7_append wsX7_append) := goodIn_app (goodIn_of _ (by decide +kernel)) ggX11_feed_X7_append
theorem dX11_feed_0 : decode cX11_feed 0 = .ok (.aload_n 0, 1) := by decide +kernel
theorem dX11_feed_1 : decode cX11_feed 1 = .ok (.getfield 12, 3) := by decide +kernel
theorem dX11_feed_4 : decode cX11_feed 4 = .ok (.getfield 105, 3) := by decide +kernel
theorem dX11_feed_7 : decode cX11_feed 7 = .ok (.bipush 20, 2) := by decide +kernel
theorem dX11_feed_9 : decode cX11_feed 9 = .ok (.iadd, 1) := by decide +kernel
theorem dX11_feed_10 : decode cX11_feed 10 = .ok (.sipush 2000, 3) := by decide +kernel
theorem dX11_feed_13 : decode cX11_feed 13 = .ok (.if_icmp .le 6, 3) := by decide +kernel
theorem dX11_feed_19 : decode cX11_feed 19 = .ok (.aload_n 0, 1) := by decide +kernel
theorem dX11_feed_20 : decode cX11_feed 20 = .ok (.getfield 12, 3) := by decide +kernel
theorem dX11_feed_23 : decode cX11_feed 23 = .ok (.iload_n 1, 1) := by decide +kernel
theorem dX11_feed_24 : decode cX11_feed 24 = .ok (.invokevirtual 108, 3) := by decide +kernel
theorem dX11_feed_27 : decode cX11_feed 27 = .ok (.aload_n 0, 1) := by decide +kernel
theorem dX11_feed_28 : decode cX11_feed 28 = .ok (.getfield 12, 3) := by decide +kernel
theorem dX11_feed_31 : decode cX11_feed 31 = .ok (.iload_n 2, 1) := by decide +kernel
theorem dX11_feed_32 : decode cX11_feed 32 = .ok (.invokevirtual 108, 3) := by decide +kernel
theorem dX11_feed_35 : decode cX11_feed 35 = .ok (.aload_n 0, 1) := by decide +kernel
theorem dX11_feed_36 : decode cX11_feed 36 = .ok (.getfield 12, 3) := by decide +kernel
theorem dX11_feed_39 : decode cX11_feed 39 = .ok (.iload_n 3, 1) := by decide +kernel
theorem dX11_feed_40 : decode cX11_feed 40 = .ok (.invokevirtual 108, 3) := by decide +kernel
theorem dX11_feed_43 : decode cX11_feed 43 = .ok (.aload_n 0, 1) := by decide +kernel
theorem dX11_feed_44 : decode cX11_feed 44 = .ok (.getfield 12, 3) := by decide +kernel
theorem dX11_feed_47 : decode cX11_feed 47 = .ok (.iload 4, 2) := by decide +kernel
theorem dX11_feed_49 : decode cX11_feed 49 = .ok (.invokevirtual 108, 3) := by decide +kernel
theorem dX11_feed_52 : decode cX11_feed 52 = .ok (.aload_n 0, 1) := by decide +kernel
theorem dX11_feed_53 : decode cX11_feed 53 = .ok (.getfield 12, 3) := by decide +kernel
theorem dX11_feed_56 : decode cX11_feed 56 = .ok (.iload 5, 2) := by decide +kernel
theorem dX11_feed_58 : decode cX11_feed 58 = .ok (.invokevirtual 108, 3) := by decide +kernel
theorem dX11_feed_61 : decode cX11_feed 61 = .ok (.aload_n 0, 1) := by decide +kernel
theorem dX11_feed_62 : decode cX11_feed 62 = .ok (.getfield 12, 3) := by decide +kernel
end
section
theorem dX11_feed_65 : decode cX11_feed 65 = .ok (.getfield 105, 3) := by decide +kernel
theorem dX11_feed_68 : decode cX11_feed 68 = .ok (.ireturn, 1) := by decide +kernel
theorem dX11_end_0 : decode cX11_end 0 = .ok (.iload_n 1, 1) := by decide +kernel
theorem dX11_end_1 : decode cX11_end 1 = .ok (.ifCond .lt 14, 3) := by decide +kernel
theorem dX11_end_4 : decode cX11_end 4 = .ok (.iload_n 1, 1) := by decide +kernel
theorem dX11_end_5 : decode cX11_end 5 = .ok (.aload_n 0, 1) := by decide +kernel
theorem dX11_end_6 : decode cX11_end 6 = .ok (.getfield 12, 3) := by decide +kernel
theorem dX11_end_9 : decode cX11_end 9 = .ok (.getfield 105, 3) := by decide +kernel
theorem dX11_end_12 : decode cX11_end 12 = .ok (.if_icmp .le 5, 3) := by decide +kernel
theorem dX11_end_15 : decode cX11_end 15 = .ok (.iconst (-1), 1) := by decide +kernel
theorem dX11_end_16 : decode cX11_end 16 = .ok (.ireturn, 1) := by decide +kernel
theorem dX11_end_17 : decode cX11_end 17 = .ok (.aload_n 0, 1) := by decide +kernel
theorem dX11_end_18 : decode cX11_end 18 = .ok (.getfield 12, 3) := by decide +kernel
theorem dX11_end_21 : decode cX11_end 21 = .ok (.iload_n 1, 1) := by decide +kernel
theorem dX11_end_22 : decode cX11_end 22 = .ok (.putfield 105, 3) := by decide +kernel
theorem dX11_end_25 : decode cX11_end 25 = .ok (.iload_n 1, 1) := by decide +kernel
theorem dX11_end_26 : decode cX11_end 26 = .ok (.ireturn, 1) := by decide +kernel
set_option maxRecDepth 20000 in
theorem ggX11_reform_X7_take : GoodIn wsX11_reform wsX7_take := goodIn_r _ [18, 19, 325, 326] (by decide +kernel) (by decide +kernel)
set_option maxRecDepth 20000 in
theorem gX11_reform_X7_take : GoodIn wsX11_reform (wsV RX11 112 RX7 yX7_take wsX7_take) := goodIn_app (goodIn_of _ (by decide +kernel)) ggX11_reform_X7_take
set_option maxRecDepth 20000 in
theorem ggX11_reform_X5_clear : GoodIn wsX11_reform wsX5_clear := goodIn_r _ [23, 24, 25, 26, 27, 28, 29, 30, 31, 336, 337, 338, 339, 340, 341, 342, 343, 344, 345, 346, 347, 348, 349, 350] (by decide +kernel) (by decide +kernel)
set_option maxRecDepth 20000 in
theorem gX11_reform_X5_clear : GoodIn wsX11_reform (wsV RX11 117 RX5 yX5_clear wsX5_clear) := goodIn_app (goodIn_of _ (by decide +kernel)) ggX11_reform_X5_clear
set_option maxRecDepth 20000 in
theorem ggX11_reform_X4_read : GoodIn wsX11_reform wsX4_read := goodIn_r _ [36, 37, 38, 39, 40, 41, 42, 43, 44, 45, 46, 47, 48, 49, 35, 50, 51, 52, 53, 54, 55, 56, 57, 58, 59, 60, 61, 62, 63, 64, 65, 66, 67, 68, 69, 70, 71, 72, 73, 74, 75, 76, 77, 78, 79, 80, 81, 82, 83, 84, 85, 86, 87, 88, 89, 90, 91, 92, 93, 94, 95, 96, 97, 98, 99, 100, 101, 102, 103, 104, 105, 106, 107, 108, 109, 110, 111, 112, 113, 114, 115, 116, 117, 118, 119, 120, 121, 122, 123, 124, 125, 126, 127, 128, 129, 130, 131, 132, 133, 134, 135, 136, 137, 138, 139, 140, 141, 142, 143, 144, 145, 146, 147, 148, 149, 150, 151, 152, 153, 154, 155, 156, 157, 13, 158, 29, 159, 160, 161, 162, 28, 163, 27, 30, 164, 165, 166, 167, 168, 169, 170, 171, 172, 173, 174, 175, 176, 177, 178, 179, 180, 181, 182, 183, 184, 185, 186, 187, 188, 189, 190, 191, 192, 193, 194, 195, 196, 197, 198, 199, 200, 201, 202, 203, 204, 205, 206, 207, 208, 209, 210, 211, 212, 213, 214, 215, 216, 217, 218, 219, 220, 221, 222, 223, 224, 225, 226, 227, 228, 229, 230, 231, 232, 233, 234, 235, 236, 237, 238, 239, 240, 241, 242, 243, 25, 244, 245, 246, 247, 248, 249, 250, 251, 252, 327, 328, 329, 330, 331, 332, 333, 334, 335, 336, 337, 338, 339, 340, 341, 342, 343, 344, 345, 346, 347, 348, 349, 350, 351, 352, 353, 354, 355, 356] (by decide +kernel) (by decide +kernel)
set_option maxRecDepth 20000 in
theorem gX11_reform_X4_read : GoodIn wsX11_reform (wsV RX11 124 RX4 yX4_read wsX4_read) := goodIn_app (goodIn_of _ (by decide +kernel)) ggX11_reform_X4_read
set_option maxRecDepth 20000 in
theorem ggX11_reform_X9_turnParts : GoodIn wsX11_reform wsX9_turnParts := goodIn_r _ [257, 258, 259, 260, 261, 262, 263, 264, 265, 266, 267, 268, 269, 270, 271, 256, 272, 273, 39, 40, 41, 274, 170, 171, 172, 275, 276, 277, 278, 279, 280, 281, 282, 283, 284, 285, 286, 287, 288, 289, 204, 290, 238, 236, 237, 234, 235, 291, 149, 60, 150, 292, 166, 167, 168, 147, 146, 124, 169, 125, 173, 121, 122, 123, 336, 337, 338, 339, 340, 341, 342, 343, 344, 345, 346, 347, 348, 349, 350, 357, 358, 359, 360, 361, 362, 363, 364, 351, 352, 353, 354, 355, 356] (by decide +kernel) (by decide +kernel)
set_option maxRecDepth 20000 in
theorem gX11_reform_X9_turnParts : GoodIn wsX11_reform (wsV RX11 131 RX9 yX9_turnParts wsX9_turnParts) := goodIn_app (goodIn_of _ (by decide +kernel)) ggX11_reform_X9_turnParts
set_option maxRecDepth 20000 in
theorem ggX11_reform_X5_init : GoodIn wsX11_reform wsX5_init := goodIn_r _ [294, 295, 232, 233, 24, 296, 244, 25, 297, 298, 60, 26, 28, 29, 299, 163, 30, 31, 300, 301, 302, 303, 304, 305, 306, 124, 147, 222, 146, 307, 125, 336, 337, 338, 339, 340, 341, 342, 343, 344, 345, 346, 347, 348, 349, 350] (by decide +kernel) (by decide +kernel)
set_option maxRecDepth 20000 in
theorem gX11_reform_X5_init_n29 : GoodIn wsX11_reform (wsX5_init) := ggX11_reform_X5_init
theorem dX11_reform_0 : decode cX11_reform 0 = .ok (.aload_n 0, 1) := by decide +kernel
theorem dX11_reform_1 : decode cX11_reform 1 = .ok (.getfield 12, 3) := by decide +kernel
theorem dX11_reform_4 : decode cX11_reform 4 = .ok (.invokevirtual 112, 3) := by decide +kernel
theorem dX11_reform_7 : decode cX11_reform 7 = .ok (.istore_n 2, 1) := by decide +kernel
theorem dX11_reform_8 : decode cX11_reform 8 = .ok (.iload_n 1, 1) := by decide +kernel
theorem dX11_reform_9 : decode cX11_reform 9 = .ok (.aload_n 0, 1) := by decide +kernel
theorem dX11_reform_10 : decode cX11_reform 10 = .ok (.getfield 26, 3) := by decide +kernel
theorem dX11_reform_13 : decode cX11_reform 13 = .ok (.if_icmp .le 9, 3) := by decide +kernel
theorem dX11_reform_16 : decode cX11_reform 16 = .ok (.iload_n 1, 1) := by decide +kernel
theorem dX11_reform_17 : decode cX11_reform 17 = .ok (.ldc 116, 2) := by decide +kernel
theorem dX11_reform_19 : decode cX11_reform 19 = .ok (.if_icmp .le 6, 3) := by decide +kernel
theorem dX11_reform_22 : decode cX11_reform 22 = .ok (.bipush (-2), 2) := by decide +kernel
theorem dX11_reform_24 : decode cX11_reform 24 = .ok (.ireturn, 1) := by decide +kernel
theorem dX11_reform_25 : decode cX11_reform 25 = .ok (.aload_n 0, 1) := by decide +kernel
theorem dX11_reform_26 : decode cX11_reform 26 = .ok (.getfield 30, 3) := by decide +kernel
theorem dX11_reform_29 : decode cX11_reform 29 = .ok (.iload_n 1, 1) := by decide +kernel
theorem dX11_reform_30 : decode cX11_reform 30 = .ok (.invokevirtual 117, 3) := by decide +kernel
theorem dX11_reform_33 : decode cX11_reform 33 = .ok (.aload_n 0, 1) := by decide +kernel
theorem dX11_reform_34 : decode cX11_reform 34 = .ok (.getfield 37, 3) := by decide +kernel
theorem dX11_reform_37 : decode cX11_reform 37 = .ok (.aload_n 0, 1) := by decide +kernel
theorem dX11_reform_38 : decode cX11_reform 38 = .ok (.getfield 12, 3) := by decide +kernel
theorem dX11_reform_41 : decode cX11_reform 41 = .ok (.getfield 120, 3) := by decide +kernel
theorem dX11_reform_44 : decode cX11_reform 44 = .ok (.iload_n 2, 1) := by decide +kernel
theorem dX11_reform_45 : decode cX11_reform 45 = .ok (.aload_n 0, 1) := by decide +kernel
theorem dX11_reform_46 : decode cX11_reform 46 = .ok (.getfield 30, 3) := by decide +kernel
theorem dX11_reform_49 : decode cX11_reform 49 = .ok (.invokevirtual 124, 3) := by decide +kernel
theorem dX11_reform_52 : decode cX11_reform 52 = .ok (.aload_n 0, 1) := by decide +kernel
theorem dX11_reform_53 : decode cX11_reform 53 = .ok (.getfield 37, 3) := by decide +kernel
theorem dX11_reform_56 : decode cX11_reform 56 = .ok (.getfield 128, 3) := by decide +kernel
theorem dX11_reform_59 : decode cX11_reform 59 = .ok (.ifCond .eq 5, 3) := by decide +kernel
theorem dX11_reform_64 : decode cX11_reform 64 = .ok (.aload_n 0, 1) := by decide +kernel
theorem dX11_reform_65 : decode cX11_reform 65 = .ok (.getfield 22, 3) := by decide +kernel
theorem dX11_reform_68 : decode cX11_reform 68 = .ok (.bipush 6, 2) := by decide +kernel
theorem dX11_reform_70 : decode cX11_reform 70 = .ok (.if_icmp .lt 6, 3) := by decide +kernel
theorem dX11_reform_76 : decode cX11_reform 76 = .ok (.aload_n 0, 1) := by decide +kernel
theorem dX11_reform_77 : decode cX11_reform 77 = .ok (.getfield 44, 3) := by decide +kernel
theorem dX11_reform_80 : decode cX11_reform 80 = .ok (.aload_n 0, 1) := by decide +kernel
theorem dX11_reform_81 : decode cX11_reform 81 = .ok (.getfield 30, 3) := by decide +kernel
theorem dX11_reform_84 : decode cX11_reform 84 = .ok (.invokevirtual 131, 3) := by decide +kernel
theorem dX11_reform_87 : decode cX11_reform 87 = .ok (.aload_n 0, 1) := by decide +kernel
theorem dX11_reform_88 : decode cX11_reform 88 = .ok (.getfield 18, 3) := by decide +kernel
theorem dX11_reform_91 : decode cX11_reform 91 = .ok (.aload_n 0, 1) := by decide +kernel
theorem dX11_reform_92 : decode cX11_reform 92 = .ok (.getfield 22, 3) := by decide +kernel
theorem dX11_reform_95 : decode cX11_reform 95 = .ok (.aload_n 0, 1) := by decide +kernel
theorem dX11_reform_96 : decode cX11_reform 96 = .ok (.getfield 30, 3) := by decide +kernel
theorem dX11_reform_99 : decode cX11_reform 99 = .ok (.aastore, 1) := by decide +kernel
theorem dX11_reform_100 : decode cX11_reform 100 = .ok (.aload_n 0, 1) := by decide +kernel
theorem dX11_reform_101 : decode cX11_reform 101 = .ok (.new 16, 3) := by decide +kernel
theorem dX11_reform_104 : decode cX11_reform 104 = .ok (.dup, 1) := by decide +kernel
theorem dX11_reform_105 : decode cX11_reform 105 = .ok (.invokespecial 29, 3) := by decide +kernel
theorem dX11_reform_108 : decode cX11_reform 108 = .ok (.putfield 30, 3) := by decide +kernel
theorem dX11_reform_111 : decode cX11_reform 111 = .ok (.aload_n 0, 1) := by decide +kernel
theorem dX11_reform_112 : decode cX11_reform 112 = .ok (.iload_n 1, 1) := by decide +kernel
theorem dX11_reform_113 : decode cX11_reform 113 = .ok (.putfield 26, 3) := by decide +kernel
theorem dX11_reform_116 : decode cX11_reform 116 = .ok (.aload_n 0, 1) := by decide +kernel
theorem dX11_reform_117 : decode cX11_reform 117 = .ok (.dup, 1) := by decide +kernel
theorem dX11_reform_118 : decode cX11_reform 118 = .ok (.getfield 22, 3) := by decide +kernel
theorem dX11_reform_121 : decode cX11_reform 121 = .ok (.iconst 1, 1) := by decide +kernel
theorem dX11_reform_122 : decode cX11_reform 122 = .ok (.iadd, 1) := by decide +kernel
theorem dX11_reform_123 : decode cX11_reform 123 = .ok (.putfield 22, 3) := by decide +kernel
theorem dX11_reform_126 : decode cX11_reform 126 = .ok (.aload_n 0, 1) := by decide +kernel
theorem dX11_reform_127 : decode cX11_reform 127 = .ok (.getfield 22, 3) := by decide +kernel
theorem dX11_reform_130 : decode cX11_reform 130 = .ok (.iconst 1, 1) := by decide +kernel
theorem dX11_reform_131 : decode cX11_reform 131 = .ok (.isub, 1) := by decide +kernel
theorem dX11_reform_132 : decode cX11_reform 132 = .ok (.ireturn, 1) := by decide +kernel
theorem dX11_fault_0 : decode cX11_fault 0 = .ok (.iload_n 1, 1) := by decide +kernel
theorem dX11_fault_1 : decode cX11_fault 1 = .ok (.lookupswitch 43 #[(0, 27), (1, 35)], 27) := by decide +kernel
theorem dX11_fault_28 : decode cX11_fault 28 = .ok (.aload_n 0, 1) := by decide +kernel
theorem dX11_fault_29 : decode cX11_fault 29 = .ok (.getfield 37, 3) := by decide +kernel
theorem dX11_fault_32 : decode cX11_fault 32 = .ok (.getfield 128, 3) := by decide +kernel
theorem dX11_fault_35 : decode cX11_fault 35 = .ok (.ireturn, 1) := by decide +kernel
theorem dX11_fault_36 : decode cX11_fault 36 = .ok (.aload_n 0, 1) := by decide +kernel
theorem dX11_fault_37 : decode cX11_fault 37 = .ok (.getfield 37, 3) := by decide +kernel
theorem dX11_fault_40 : decode cX11_fault 40 = .ok (.getfield 135, 3) := by decide +kernel
theorem dX11_fault_43 : decode cX11_fault 43 = .ok (.ireturn, 1) := by decide +kernel
theorem dX11_fault_44 : decode cX11_fault 44 = .ok (.iconst (-1), 1) := by decide +kernel
theorem dX11_fault_45 : decode cX11_fault 45 = .ok (.ireturn, 1) := by decide +kernel
set_option maxRecDepth 20000 in
theorem ggX11_about_X11_reformAt : GoodIn wsX11_about wsX11_reformAt := goodIn_r _ [11, 12, 13, 29, 30, 31, 32, 33, 34, 35, 36, 37, 38, 39, 40, 41, 42, 43, 44, 45] (by decide +kernel) (by decide +kernel)
set_option maxRecDepth 20000 in
theorem gX11_about_X11_reformAt : GoodIn wsX11_about (wsV RX11 138 RX11 yX11_reformAt wsX11_reformAt) := goodIn_app (goodIn_of _ (by decide +kernel)) ggX11_about_X11_reformAt
theorem dX11_about_0 : decode cX11_about 0 = .ok (.aload_n 0, 1) := by decide +kernel
theorem dX11_about_1 : decode cX11_about 1 = .ok (.iload_n 1, 1) := by decide +kernel
theorem dX11_about_2 : decode cX11_about 2 = .ok (.invokevirtual 138, 3) := by decide +kernel
theorem dX11_about_5 : decode cX11_about 5 = .ok (.astore_n 3, 1) := by decide +kernel
theorem dX11_about_6 : decode cX11_about 6 = .ok (.aload_n 3, 1) := by decide +kernel
theorem dX11_about_7 : decode cX11_about 7 = .ok (.ifnonnull 5, 3) := by decide +kernel
theorem dX11_about_10 : decode cX11_about 10 = .ok (.iconst (-1), 1) := by decide +kernel
theorem dX11_about_11 : decode cX11_about 11 = .ok (.ireturn, 1) := by decide +kernel
theorem dX11_stage_0 : decode cX11_stage 0 = .ok (.iload_n 1, 1) := by decide +kernel
theorem dX11_stage_1 : decode cX11_stage 1 = .ok (.ifCond .lt 9, 3) := by decide +kernel
theorem dX11_stage_4 : decode cX11_stage 4 = .ok (.iload_n 1, 1) := by decide +kernel
theorem dX11_stage_5 : decode cX11_stage 5 = .ok (.ldc 116, 2) := by decide +kernel
theorem dX11_stage_7 : decode cX11_stage 7 = .ok (.if_icmp .le 6, 3) := by decide +kernel
theorem dX11_stage_10 : decode cX11_stage 10 = .ok (.bipush (-2), 2) := by decide +kernel
theorem dX11_stage_12 : decode cX11_stage 12 = .ok (.ireturn, 1) := by decide +kernel
theorem dX11_stage_13 : decode cX11_stage 13 = .ok (.iconst 0, 1) := by decide +kernel
theorem dX11_stage_14 : decode cX11_stage 14 = .ok (.istore_n 2, 1) := by decide +kernel
theorem dX11_stage_15 : decode cX11_stage 15 = .ok (.iconst 0, 1) := by decide +kernel
theorem dX11_stage_16 : decode cX11_stage 16 = .ok (.istore_n 3, 1) := by decide +kernel
theorem dX11_stage_17 : decode cX11_stage 17 = .ok (.iload_n 3, 1) := by decide +kernel
theorem dX11_stage_18 : decode cX11_stage 18 = .ok (.aload_n 0, 1) := by decide +kernel
theorem dX11_stage_19 : decode cX11_stage 19 = .ok (.getfield 22, 3) := by decide +kernel
theorem dX11_stage_22 : decode cX11_stage 22 = .ok (.if_icmp .ge 34, 3) := by decide +kernel
theorem dX11_stage_56 : decode cX11_stage 56 = .ok (.iload_n 2, 1) := by decide +kernel
theorem dX11_stage_57 : decode cX11_stage 57 = .ok (.ireturn, 1) := by decide +kernel
set_option maxRecDepth 20000 in
theorem ggX11_turn_X7_take : GoodIn wsX11_turn wsX7_take := goodIn_r _ [11, 12, 201, 202] (by decide +kernel) (by decide +kernel)
set_option maxRecDepth 20000 in
theorem gX11_turn_X7_take : GoodIn wsX11_turn (wsV RX11 112 RX7 yX7_take wsX7_take) := goodIn_app (goodIn_of _ (by decide +kernel)) ggX11_turn_X7_take
set_option maxRecDepth 20000 in
theorem ggX11_turn_X11_areStages : GoodIn wsX11_turn wsX11_areStages := goodIn_r _ [17, 18, 19, 20, 16, 21, 22, 184, 185, 186, 187, 188, 189, 190, 191, 192, 193, 194, 195, 196, 197, 198, 199, 200] (by decide +kernel) (by decide +kernel)
set_option maxRecDepth 20000 in
theorem gX11_turn_X11_areStages : GoodIn wsX11_turn (wsV RX11 160 RX11 yX11_areStages wsX11_areStages) := goodIn_app (goodIn_of _ (by decide +kernel)) ggX11_turn_X11_areStages
set_option maxRecDepth 20000 in
theorem ggX11_turn_X7_isWord : GoodIn wsX11_turn wsX7_isWord := goodIn_r _ [26, 27, 28, 29, 30, 31, 201, 202] (by decide +kernel) (by decide +kernel)
set_option maxRecDepth 20000 in
theorem gX11_turn_X7_isWord : GoodIn wsX11_turn (wsV RX11 164 RX7 yX7_isWord wsX7_isWord) := goodIn_app (goodIn_of _ (by decide +kernel)) ggX11_turn_X7_isWord
theorem dX11_turn_0 : decode cX11_turn 0 = .ok (.aload_n 0, 1) := by decide +kernel
theorem dX11_turn_1 : decode cX11_turn 1 = .ok (.getfield 12, 3) := by decide +kernel
theorem dX11_turn_4 : decode cX11_turn 4 = .ok (.invokevirtual 112, 3) := by decide +kernel
theorem dX11_turn_7 : decode cX11_turn 7 = .ok (.istore_n 3, 1) := by decide +kernel
theorem dX11_turn_8 : decode cX11_turn 8 = .ok (.aload_n 0, 1) := by decide +kernel
theorem dX11_turn_9 : decode cX11_turn 9 = .ok (.iload_n 1, 1) := by decide +kernel
theorem dX11_turn_10 : decode cX11_turn 10 = .ok (.iload_n 2, 1) := by decide +kernel
theorem dX11_turn_11 : decode cX11_turn 11 = .ok (.invokevirtual 160, 3) := by decide +kernel
theorem dX11_turn_14 : decode cX11_turn 14 = .ok (.ifCond .eq 14, 3) := by decide +kernel
theorem dX11_turn_17 : decode cX11_turn 17 = .ok (.aload_n 0, 1) := by decide +kernel
theorem dX11_turn_18 : decode cX11_turn 18 = .ok (.getfield 12, 3) := by decide +kernel
theorem dX11_turn_21 : decode cX11_turn 21 = .ok (.iload_n 3, 1) := by decide +kernel
theorem dX11_turn_22 : decode cX11_turn 22 = .ok (.invokevirtual 164, 3) := by decide +kernel
theorem dX11_turn_25 : decode cX11_turn 25 = .ok (.ifCond .ne 6, 3) := by decide +kernel
theorem dX11_turn_28 : decode cX11_turn 28 = .ok (.bipush (-2), 2) := by decide +kernel
theorem dX11_turn_30 : decode cX11_turn 30 = .ok (.ireturn, 1) := by decide +kernel
set_option maxRecDepth 20000 in
theorem ggX11_form_X10_letterAt : GoodIn wsX11_form wsX10_letterAt := goodIn_r _ [6, 7, 8, 9, 10, 28, 29, 30, 31] (by decide +kernel) (by decide +kernel)
set_option maxRecDepth 20000 in
theorem gX11_form_X10_letterAt : GoodIn wsX11_form (wsV RX11 176 RX10 yX10_letterAt wsX10_letterAt) := goodIn_app (goodIn_of _ (by decide +kernel)) ggX11_form_X10_letterAt
theorem dX11_form_0 : decode cX11_form 0 = .ok (.aload_n 0, 1) := by decide +kernel
theorem dX11_form_1 : decode cX11_form 1 = .ok (.getfield 53, 3) := by decide +kernel
theorem dX11_form_4 : decode cX11_form 4 = .ok (.iload_n 1, 1) := by decide +kernel
theorem dX11_form_5 : decode cX11_form 5 = .ok (.iload_n 2, 1) := by decide +kernel
theorem dX11_form_6 : decode cX11_form 6 = .ok (.invokevirtual 176, 3) := by decide +kernel
theorem dX11_form_9 : decode cX11_form 9 = .ok (.ireturn, 1) := by decide +kernel
set_option maxRecDepth 20000 in
theorem ggX11_partings_X7_take : GoodIn wsX11_partings wsX7_take := goodIn_r _ [11, 12, 115, 116] (by decide +kernel) (by decide +kernel)
set_option maxRecDepth 20000 in
theorem gX11_partings_X7_take : GoodIn wsX11_partings (wsV RX11 112 RX7 yX7_take wsX7_take) := goodIn_app (goodIn_of _ (by decide +kernel)) ggX11_partings_X7_take
set_option maxRecDepth 20000 in
theorem ggX11_partings_X11_reformAt : GoodIn wsX11_partings wsX11_reformAt := goodIn_r _ [17, 18, 19, 87, 88, 89, 90, 91, 92, 93, 94, 95, 96, 97, 98, 99, 100, 101, 102, 103] (by decide +kernel) (by decide +kernel)
set_option maxRecDepth 20000 in
theorem gX11_partings_X11_reformAt : GoodIn wsX11_partings (wsV RX11 138 RX11 yX11_reformAt wsX11_reformAt) := goodIn_app (goodIn_of _ (by decide +kernel)) ggX11_partings_X11_reformAt
theorem dX11_partings_0 : decode cX11_partings 0 = .ok (.aload_n 0, 1) := by decide +kernel
theorem dX11_partings_1 : decode cX11_partings 1 = .ok (.getfield 12, 3) := by decide +kernel
theorem dX11_partings_4 : decode cX11_partings 4 = .ok (.invokevirtual 112, 3) := by decide +kernel
theorem dX11_partings_7 : decode cX11_partings 7 = .ok (.istore_n 2, 1) := by decide +kernel
theorem dX11_partings_8 : decode cX11_partings 8 = .ok (.aload_n 0, 1) := by decide +kernel
theorem dX11_partings_9 : decode cX11_partings 9 = .ok (.iload_n 1, 1) := by decide +kernel
theorem dX11_partings_10 : decode cX11_partings 10 = .ok (.invokevirtual 138, 3) := by decide +kernel
theorem dX11_partings_13 : decode cX11_partings 13 = .ok (.astore_n 3, 1) := by decide +kernel
theorem dX11_partings_14 : decode cX11_partings 14 = .ok (.aload_n 3, 1) := by decide +kernel
theorem dX11_partings_15 : decode cX11_partings 15 = .ok (.ifnull 14, 3) := by decide +kernel
theorem dX11_partings_29 : decode cX11_partings 29 = .ok (.bipush (-2), 2) := by decide +kernel
theorem dX11_partings_31 : decode cX11_partings 31 = .ok (.ireturn, 1) := by decide +kernel
theorem dX11_parting_0 : decode cX11_parting 0 = .ok (.iload_n 1, 1) := by decide +kernel
theorem dX11_parting_1 : decode cX11_parting 1 = .ok (.ifCond .lt 18, 3) := by decide +kernel
theorem dX11_parting_4 : decode cX11_parting 4 = .ok (.iload_n 1, 1) := by decide +kernel
theorem dX11_parting_5 : decode cX11_parting 5 = .ok (.aload_n 0, 1) := by decide +kernel
theorem dX11_parting_6 : decode cX11_parting 6 = .ok (.getfield 60, 3) := by decide +kernel
theorem dX11_parting_9 : decode cX11_parting 9 = .ok (.getfield 190, 3) := by decide +kernel
theorem dX11_parting_12 : decode cX11_parting 12 = .ok (.if_icmp .ge 7, 3) := by decide +kernel
theorem dX11_parting_19 : decode cX11_parting 19 = .ok (.iconst (-1), 1) := by decide +kernel
theorem dX11_parting_20 : decode cX11_parting 20 = .ok (.ireturn, 1) := by decide +kernel
set_option maxRecDepth 20000 in
theorem ggX11_learn_X7_take : GoodIn wsX11_learn wsX7_take := goodIn_r _ [10, 11, 68, 69] (by decide +kernel) (by decide +kernel)
set_option maxRecDepth 20000 in
theorem gX11_learn_X7_take : GoodIn wsX11_learn (wsV RX11 112 RX7 yX7_take wsX7_take) := goodIn_app (goodIn_of _ (by decide +kernel)) ggX11_learn_X7_take
set_option maxRecDepth 20000 in
theorem ggX11_learn_X7_isWord : GoodIn wsX11_learn wsX7_isWord := goodIn_r _ [15, 16, 17, 18, 19, 20, 68, 69] (by decide +kernel) (by decide +kernel)
set_option maxRecDepth 20000 in
theorem gX11_learn_X7_isWord : GoodIn wsX11_learn (wsV RX11 164 RX7 yX7_isWord wsX7_isWord) := goodIn_app (goodIn_of _ (by decide +kernel)) ggX11_learn_X7_isWord
theorem dX11_learn_0 : decode cX11_learn 0 = .ok (.aload_n 0, 1) := by decide +kernel
theorem dX11_learn_1 : decode cX11_learn 1 = .ok (.getfield 12, 3) := by decide +kernel
theorem dX11_learn_4 : decode cX11_learn 4 = .ok (.invokevirtual 112, 3) := by decide +kernel
theorem dX11_learn_7 : decode cX11_learn 7 = .ok (.istore_n 1, 1) := by decide +kernel
theorem dX11_learn_8 : decode cX11_learn 8 = .ok (.aload_n 0, 1) := by decide +kernel
theorem dX11_learn_9 : decode cX11_learn 9 = .ok (.getfield 12, 3) := by decide +kernel
theorem dX11_learn_12 : decode cX11_learn 12 = .ok (.iload_n 1, 1) := by decide +kernel
theorem dX11_learn_13 : decode cX11_learn 13 = .ok (.invokevirtual 164, 3) := by decide +kernel
theorem dX11_learn_16 : decode cX11_learn 16 = .ok (.ifCond .ne 6, 3) := by decide +kernel
theorem dX11_learn_19 : decode cX11_learn 19 = .ok (.bipush (-2), 2) := by decide +kernel
theorem dX11_learn_21 : decode cX11_learn 21 = .ok (.ireturn, 1) := by decide +kernel
set_option maxRecDepth 20000 in
theorem ggX11_word_X10_letterAt : GoodIn wsX11_word wsX10_letterAt := goodIn_r _ [7, 8, 9, 10, 11, 35, 36, 37, 38] (by decide +kernel) (by decide +kernel)
set_option maxRecDepth 20000 in
theorem gX11_word_X10_letterAt : GoodIn wsX11_word (wsV RX11 176 RX10 yX10_letterAt wsX10_letterAt) := goodIn_app (goodIn_of _ (by decide +kernel)) ggX11_word_X10_letterAt
theorem dX11_word_0 : decode cX11_word 0 = .ok (.aload_n 0, 1) := by decide +kernel
theorem dX11_word_1 : decode cX11_word 1 = .ok (.getfield 67, 3) := by decide +kernel
theorem dX11_word_4 : decode cX11_word 4 = .ok (.getfield 197, 3) := by decide +kernel
theorem dX11_word_7 : decode cX11_word 7 = .ok (.iload_n 1, 1) := by decide +kernel
theorem dX11_word_8 : decode cX11_word 8 = .ok (.iload_n 2, 1) := by decide +kernel
theorem dX11_word_9 : decode cX11_word 9 = .ok (.invokevirtual 176, 3) := by decide +kernel
theorem dX11_word_12 : decode cX11_word 12 = .ok (.ireturn, 1) := by decide +kernel
set_option maxRecDepth 20000 in
theorem ggX11_back_X7_take : GoodIn wsX11_back wsX7_take := goodIn_r _ [14, 15, 236, 237] (by decide +kernel) (by decide +kernel)
set_option maxRecDepth 20000 in
theorem gX11_back_X7_take : GoodIn wsX11_back (wsV RX11 112 RX7 yX7_take wsX7_take) := goodIn_app (goodIn_of _ (by decide +kernel)) ggX11_back_X7_take
set_option maxRecDepth 20000 in
theorem ggX11_back_X11_isStage : GoodIn wsX11_back wsX11_isStage := goodIn_r _ [20, 21, 209, 210, 211, 212, 213, 214, 215, 216, 217, 218, 219, 220, 221, 222, 223, 224, 225] (by decide +kernel) (by decide +kernel)
set_option maxRecDepth 20000 in
theorem gX11_back_X11_isStage : GoodIn wsX11_back (wsV RX11 208 RX11 yX11_isStage wsX11_isStage) := goodIn_app (goodIn_of _ (by decide +kernel)) ggX11_back_X11_isStage
set_option maxRecDepth 20000 in
theorem ggX11_back_X7_isWord : GoodIn wsX11_back wsX7_isWord := goodIn_r _ [25, 26, 27, 28, 29, 30, 236, 237] (by decide +kernel) (by decide +kernel)
set_option maxRecDepth 20000 in
theorem gX11_back_X7_isWord : GoodIn wsX11_back (wsV RX11 164 RX7 yX7_isWord wsX7_isWord) := goodIn_app (goodIn_of _ (by decide +kernel)) ggX11_back_X7_isWord
theorem dX11_back_0 : decode cX11_back 0 = .ok (.aload_n 0, 1) := by decide +kernel
theorem dX11_back_1 : decode cX11_back 1 = .ok (.getfield 12, 3) := by decide +kernel
theorem dX11_back_4 : decode cX11_back 4 = .ok (.invokevirtual 112, 3) := by decide +kernel
theorem dX11_back_7 : decode cX11_back 7 = .ok (.istore_n 2, 1) := by decide +kernel
theorem dX11_back_8 : decode cX11_back 8 = .ok (.aload_n 0, 1) := by decide +kernel
theorem dX11_back_9 : decode cX11_back 9 = .ok (.iload_n 1, 1) := by decide +kernel
theorem dX11_back_10 : decode cX11_back 10 = .ok (.invokevirtual 208, 3) := by decide +kernel
theorem dX11_back_13 : decode cX11_back 13 = .ok (.ifCond .eq 14, 3) := by decide +kernel
theorem dX11_back_16 : decode cX11_back 16 = .ok (.aload_n 0, 1) := by decide +kernel
theorem dX11_back_17 : decode cX11_back 17 = .ok (.getfield 12, 3) := by decide +kernel
theorem dX11_back_20 : decode cX11_back 20 = .ok (.iload_n 2, 1) := by decide +kernel
theorem dX11_back_21 : decode cX11_back 21 = .ok (.invokevirtual 164, 3) := by decide +kernel
theorem dX11_back_24 : decode cX11_back 24 = .ok (.ifCond .ne 6, 3) := by decide +kernel
theorem dX11_back_27 : decode cX11_back 27 = .ok (.bipush (-2), 2) := by decide +kernel
theorem dX11_back_29 : decode cX11_back 29 = .ok (.ireturn, 1) := by decide +kernel
theorem dX11_old_0 : decode cX11_old 0 = .ok (.iload_n 1, 1) := by decide +kernel
theorem dX11_old_1 : decode cX11_old 1 = .ok (.ifCond .lt 11, 3) := by decide +kernel
theorem dX11_old_4 : decode cX11_old 4 = .ok (.iload_n 1, 1) := by decide +kernel
theorem dX11_old_5 : decode cX11_old 5 = .ok (.aload_n 0, 1) := by decide +kernel
theorem dX11_old_6 : decode cX11_old 6 = .ok (.getfield 75, 3) := by decide +kernel
theorem dX11_old_9 : decode cX11_old 9 = .ok (.if_icmp .lt 7, 3) := by decide +kernel
theorem dX11_old_12 : decode cX11_old 12 = .ok (.iconst (-1), 1) := by decide +kernel
theorem dX11_old_13 : decode cX11_old 13 = .ok (.goto 9, 3) := by decide +kernel
theorem dX11_old_22 : decode cX11_old 22 = .ok (.ireturn, 1) := by decide +kernel
set_option maxRecDepth 20000 in
theorem ggX11_collisions_X11_isStage : GoodIn wsX11_collisions wsX11_isStage := goodIn_r _ [11, 12, 200, 201, 202, 203, 204, 205, 206, 207, 208, 209, 210, 211, 212, 213, 214, 215, 216] (by decide +kernel) (by decide +kernel)
set_option maxRecDepth 20000 in
theorem gX11_collisions_X11_isStage : GoodIn wsX11_collisions (wsV RX11 208 RX11 yX11_isStage wsX11_isStage) := goodIn_app (goodIn_of _ (by decide +kernel)) ggX11_collisions_X11_isStage
set_option maxRecDepth 20000 in
theorem ggX11_collisions_X0_fill : GoodIn wsX11_collisions wsX0_fill := goodIn_r _ [17, 18, 19, 20, 21, 22, 23, 24, 25, 26, 27, 28, 29, 30, 31, 32, 33, 34, 35, 36, 37, 38, 39, 40, 41, 42, 43, 44, 45, 46, 47, 48, 16, 49, 50, 51, 52, 53, 54, 55, 56, 57, 58, 59, 60, 61, 62, 63, 64, 65, 66, 67, 68, 69, 70, 71, 72, 73, 74, 75, 76, 77, 78, 79, 80, 81, 82, 83, 84, 85, 86, 87, 88, 89, 90, 91, 92, 93, 94, 95, 96, 97, 98, 99, 100, 101, 102, 103, 104, 105, 106, 107, 108, 109, 110, 111, 112, 113, 114, 115, 116, 117, 118, 119, 120, 121, 122, 123, 124, 125, 126, 127, 128, 129, 130, 131, 132, 133, 134, 135, 136, 137, 138, 139, 140, 141, 142, 143, 144, 145, 146, 147, 148, 149, 150, 151, 152, 153, 154, 155, 156, 157, 158, 159, 160, 161, 162, 163, 164, 165, 166, 167, 168, 169, 170, 171, 172, 173, 174, 175, 176, 177, 178, 179, 180, 181, 182, 183, 184, 185, 186, 187, 188, 189, 217, 218, 219, 220, 221, 222, 223, 224, 225, 226, 227, 228, 229, 230, 231, 232, 233, 234, 235, 236, 237, 238, 239, 240, 241, 242, 243, 244, 245, 246, 247, 248, 249, 250, 251, 252, 253, 254, 255, 256, 257, 258] (by decide +kernel) (by decide +kernel)
set_option maxRecDepth 20000 in
theorem gX11_collisions_X0_fill : GoodIn wsX11_collisions (wsV RX11 211 RX0 yX0_fill wsX0_fill) := goodIn_app (goodIn_of _ (by decide +kernel)) ggX11_collisions_X0_fill
theorem dX11_collisions_0 : decode cX11_collisions 0 = .ok (.aload_n 0, 1) := by decide +kernel
theorem dX11_collisions_1 : decode cX11_collisions 1 = .ok (.iconst 0, 1) := by decide +kernel
theorem dX11_collisions_2 : decode cX11_collisions 2 = .ok (.putfield 81, 3) := by decide +kernel
theorem dX11_collisions_5 : decode cX11_collisions 5 = .ok (.aload_n 0, 1) := by decide +kernel
theorem dX11_collisions_6 : decode cX11_collisions 6 = .ok (.iload_n 1, 1) := by decide +kernel
theorem dX11_collisions_7 : decode cX11_collisions 7 = .ok (.invokevirtual 208, 3) := by decide +kernel
theorem dX11_collisions_10 : decode cX11_collisions 10 = .ok (.ifCond .ne 6, 3) := by decide +kernel
theorem dX11_collisions_13 : decode cX11_collisions 13 = .ok (.bipush (-2), 2) := by decide +kernel
theorem dX11_collisions_15 : decode cX11_collisions 15 = .ok (.ireturn, 1) := by decide +kernel
theorem dX11_collisions_16 : decode cX11_collisions 16 = .ok (.aload_n 0, 1) := by decide +kernel
theorem dX11_collisions_17 : decode cX11_collisions 17 = .ok (.getfield 67, 3) := by decide +kernel
theorem dX11_collisions_20 : decode cX11_collisions 20 = .ok (.iload_n 1, 1) := by decide +kernel
theorem dX11_collisions_21 : decode cX11_collisions 21 = .ok (.aload_n 0, 1) := by decide +kernel
theorem dX11_collisions_22 : decode cX11_collisions 22 = .ok (.getfield 18, 3) := by decide +kernel
theorem dX11_collisions_25 : decode cX11_collisions 25 = .ok (.aload_n 0, 1) := by decide +kernel
theorem dX11_collisions_26 : decode cX11_collisions 26 = .ok (.getfield 44, 3) := by decide +kernel
theorem dX11_collisions_29 : decode cX11_collisions 29 = .ok (.invokevirtual 211, 3) := by decide +kernel
theorem dX11_collisions_32 : decode cX11_collisions 32 = .ok (.iconst 0, 1) := by decide +kernel
theorem dX11_collisions_33 : decode cX11_collisions 33 = .ok (.istore_n 2, 1) := by decide +kernel
theorem dX11_collisions_34 : decode cX11_collisions 34 = .ok (.iconst 0, 1) := by decide +kernel
theorem dX11_collisions_35 : decode cX11_collisions 35 = .ok (.istore_n 3, 1) := by decide +kernel
theorem dX11_collisions_36 : decode cX11_collisions 36 = .ok (.iload_n 3, 1) := by decide +kernel
theorem dX11_collisions_37 : decode cX11_collisions 37 = .ok (.aload_n 0, 1) := by decide +kernel
theorem dX11_collisions_38 : decode cX11_collisions 38 = .ok (.getfield 67, 3) := by decide +kernel
theorem dX11_collisions_41 : decode cX11_collisions 41 = .ok (.getfield 197, 3) := by decide +kernel
theorem dX11_collisions_44 : decode cX11_collisions 44 = .ok (.getfield 151, 3) := by decide +kernel
theorem dX11_collisions_47 : decode cX11_collisions 47 = .ok (.if_icmp .ge 64, 3) := by decide +kernel
theorem dX11_collisions_111 : decode cX11_collisions 111 = .ok (.iload_n 2, 1) := by decide +kernel
theorem dX11_collisions_112 : decode cX11_collisions 112 = .ok (.ireturn, 1) := by decide +kernel
theorem dX11_collision_0 : decode cX11_collision 0 = .ok (.iload_n 1, 1) := by decide +kernel
theorem dX11_collision_1 : decode cX11_collision 1 = .ok (.ifCond .lt 11, 3) := by decide +kernel
theorem dX11_collision_4 : decode cX11_collision 4 = .ok (.iload_n 1, 1) := by decide +kernel
theorem dX11_collision_5 : decode cX11_collision 5 = .ok (.aload_n 0, 1) := by decide +kernel
theorem dX11_collision_6 : decode cX11_collision 6 = .ok (.getfield 81, 3) := by decide +kernel
theorem dX11_collision_9 : decode cX11_collision 9 = .ok (.if_icmp .lt 7, 3) := by decide +kernel
theorem dX11_collision_12 : decode cX11_collision 12 = .ok (.iconst (-1), 1) := by decide +kernel
theorem dX11_collision_13 : decode cX11_collision 13 = .ok (.goto 9, 3) := by decide +kernel
theorem dX11_collision_22 : decode cX11_collision 22 = .ok (.ireturn, 1) := by decide +kernel
set_option maxRecDepth 20000 in
theorem ggX11_rhymes_X11_isStage : GoodIn wsX11_rhymes wsX11_isStage := goodIn_r _ [10, 11, 198, 199, 200, 201, 202, 203, 204, 205, 206, 207, 208, 209, 210, 211, 212, 213, 214] (by decide +kernel) (by decide +kernel)
set_option maxRecDepth 20000 in
theorem gX11_rhymes_X11_isStage : GoodIn wsX11_rhymes (wsV RX11 208 RX11 yX11_isStage wsX11_isStage) := goodIn_app (goodIn_of _ (by decide +kernel)) ggX11_rhymes_X11_isStage
set_option maxRecDepth 20000 in
theorem ggX11_rhymes_X0_fill : GoodIn wsX11_rhymes wsX0_fill := goodIn_r _ [16, 17, 18, 19, 20, 21, 22, 23, 24, 25, 26, 27, 28, 29, 30, 31, 32, 33, 34, 35, 36, 37, 38, 39, 40, 41, 42, 43, 44, 45, 46, 47, 15, 48, 49, 50, 51, 52, 53, 54, 55, 56, 57, 58, 59, 60, 61, 62, 63, 64, 65, 66, 67, 68, 69, 70, 71, 72, 73, 74, 75, 76, 77, 78, 79, 80, 81, 82, 83, 84, 85, 86, 87, 88, 89, 90, 91, 92, 93, 94, 95, 96, 97, 98, 99, 100, 101, 102, 103, 104, 105, 106, 107, 108, 109, 110, 111, 112, 113, 114, 115, 116, 117, 118, 119, 120, 121, 122, 123, 124, 125, 126, 127, 128, 129, 130, 131, 132, 133, 134, 135, 136, 137, 138, 139, 140, 141, 142, 143, 144, 145, 146, 147, 148, 149, 150, 151, 152, 153, 154, 155, 156, 157, 158, 159, 160, 161, 162, 163, 164, 165, 166, 167, 168, 169, 170, 171, 172, 173, 174, 175, 176, 177, 178, 179, 180, 181, 182, 183, 184, 185, 186, 187, 188, 215, 216, 217, 218, 219, 220, 221, 222, 223, 224, 225, 226, 227, 228, 229, 230, 231, 232, 233, 234, 235, 236, 237, 238, 239, 240, 241, 242, 243, 244, 245, 246, 247, 248, 249, 250, 251, 252, 253, 254, 255, 256] (by decide +kernel) (by decide +kernel)
set_option maxRecDepth 20000 in
theorem gX11_rhymes_X0_fill : GoodIn wsX11_rhymes (wsV RX11 211 RX0 yX0_fill wsX0_fill) := goodIn_app (goodIn_of _ (by decide +kernel)) ggX11_rhymes_X0_fill
theorem dX11_rhymes_0 : decode cX11_rhymes 0 = .ok (.aload_n 0, 1) := by decide +kernel
theorem dX11_rhymes_1 : decode cX11_rhymes 1 = .ok (.iload_n 1, 1) := by decide +kernel
theorem dX11_rhymes_2 : decode cX11_rhymes 2 = .ok (.invokevirtual 208, 3) := by decide +kernel
theorem dX11_rhymes_5 : decode cX11_rhymes 5 = .ok (.ifCond .ne 6, 3) := by decide +kernel
theorem dX11_rhymes_8 : decode cX11_rhymes 8 = .ok (.bipush (-2), 2) := by decide +kernel
theorem dX11_rhymes_10 : decode cX11_rhymes 10 = .ok (.ireturn, 1) := by decide +kernel
theorem dX11_rhymes_11 : decode cX11_rhymes 11 = .ok (.aload_n 0, 1) := by decide +kernel
theorem dX11_rhymes_12 : decode cX11_rhymes 12 = .ok (.getfield 67, 3) := by decide +kernel
theorem dX11_rhymes_15 : decode cX11_rhymes 15 = .ok (.iload_n 1, 1) := by decide +kernel
theorem dX11_rhymes_16 : decode cX11_rhymes 16 = .ok (.aload_n 0, 1) := by decide +kernel
theorem dX11_rhymes_17 : decode cX11_rhymes 17 = .ok (.getfield 18, 3) := by decide +kernel
theorem dX11_rhymes_20 : decode cX11_rhymes 20 = .ok (.aload_n 0, 1) := by decide +kernel
theorem dX11_rhymes_21 : decode cX11_rhymes 21 = .ok (.getfield 44, 3) := by decide +kernel
theorem dX11_rhymes_24 : decode cX11_rhymes 24 = .ok (.invokevirtual 211, 3) := by decide +kernel
end
section
theorem dX11_rhymes_27 : decode cX11_rhymes 27 = .ok (.iconst 0, 1) := by decide +kernel
theorem dX11_rhymes_28 : decode cX11_rhymes 28 = .ok (.istore_n 2, 1) := by decide +kernel
theorem dX11_rhymes_29 : decode cX11_rhymes 29 = .ok (.iconst 0, 1) := by decide +kernel
theorem dX11_rhymes_30 : decode cX11_rhymes 30 = .ok (.istore_n 3, 1) := by decide +kernel
theorem dX11_rhymes_31 : decode cX11_rhymes 31 = .ok (.iload_n 3, 1) := by decide +kernel
theorem dX11_rhymes_32 : decode cX11_rhymes 32 = .ok (.aload_n 0, 1) := by decide +kernel
theorem dX11_rhymes_33 : decode cX11_rhymes 33 = .ok (.getfield 67, 3) := by decide +kernel
theorem dX11_rhymes_36 : decode cX11_rhymes 36 = .ok (.getfield 197, 3) := by decide +kernel
theorem dX11_rhymes_39 : decode cX11_rhymes 39 = .ok (.getfield 151, 3) := by decide +kernel
theorem dX11_rhymes_42 : decode cX11_rhymes 42 = .ok (.if_icmp .ge 75, 3) := by decide +kernel
theorem dX11_rhymes_117 : decode cX11_rhymes 117 = .ok (.iload_n 2, 1) := by decide +kernel
theorem dX11_rhymes_118 : decode cX11_rhymes 118 = .ok (.ireturn, 1) := by decide +kernel
set_option maxRecDepth 20000 in
theorem ggX11_tell_X11_isStage : GoodIn wsX11_tell wsX11_isStage := goodIn_r _ [10, 11, 194, 195, 196, 197, 198, 199, 200, 201, 202, 203, 204, 205, 206, 207, 208, 209, 210] (by decide +kernel) (by decide +kernel)
set_option maxRecDepth 20000 in
theorem gX11_tell_X11_isStage : GoodIn wsX11_tell (wsV RX11 208 RX11 yX11_isStage wsX11_isStage) := goodIn_app (goodIn_of _ (by decide +kernel)) ggX11_tell_X11_isStage
set_option maxRecDepth 20000 in
theorem ggX11_tell_X0_fill : GoodIn wsX11_tell wsX0_fill := goodIn_r _ [16, 17, 18, 19, 20, 21, 22, 23, 24, 25, 26, 27, 28, 29, 30, 31, 32, 33, 34, 35, 36, 37, 38, 39, 40, 41, 42, 43, 44, 45, 46, 47, 15, 48, 49, 50, 51, 52, 53, 54, 55, 56, 57, 58, 59, 60, 61, 62, 63, 64, 65, 66, 67, 68, 69, 70, 71, 72, 73, 74, 75, 76, 77, 78, 79, 80, 81, 82, 83, 84, 85, 86, 87, 88, 89, 90, 91, 92, 93, 94, 95, 96, 97, 98, 99, 100, 101, 102, 103, 104, 105, 106, 107, 108, 109, 110, 111, 112, 113, 114, 115, 116, 117, 118, 119, 120, 121, 122, 123, 124, 125, 126, 127, 128, 129, 130, 131, 132, 133, 134, 135, 136, 137, 138, 139, 140, 141, 142, 143, 144, 145, 146, 147, 148, 149, 150, 151, 152, 153, 154, 155, 156, 157, 158, 159, 160, 161, 162, 163, 164, 165, 166, 167, 168, 169, 170, 171, 172, 173, 174, 175, 176, 177, 178, 179, 180, 181, 182, 183, 184, 185, 186, 187, 188, 211, 212, 213, 214, 215, 216, 217, 218, 219, 220, 221, 222, 223, 224, 225, 226, 227, 228, 229, 230, 231, 232, 233, 234, 235, 236, 237, 238, 239, 240, 241, 242, 243, 244, 245, 246, 247, 248, 249, 250, 251, 252] (by decide +kernel) (by decide +kernel)
set_option maxRecDepth 20000 in
theorem gX11_tell_X0_fill : GoodIn wsX11_tell (wsV RX11 211 RX0 yX0_fill wsX0_fill) := goodIn_app (goodIn_of _ (by decide +kernel)) ggX11_tell_X0_fill
theorem dX11_tell_0 : decode cX11_tell 0 = .ok (.aload_n 0, 1) := by decide +kernel
theorem dX11_tell_1 : decode cX11_tell 1 = .ok (.iload_n 1, 1) := by decide +kernel
theorem dX11_tell_2 : decode cX11_tell 2 = .ok (.invokevirtual 208, 3) := by decide +kernel
theorem dX11_tell_5 : decode cX11_tell 5 = .ok (.ifCond .eq 12, 3) := by decide +kernel
theorem dX11_tell_8 : decode cX11_tell 8 = .ok (.iload_n 2, 1) := by decide +kernel
theorem dX11_tell_9 : decode cX11_tell 9 = .ok (.ifCond .lt 8, 3) := by decide +kernel
theorem dX11_tell_12 : decode cX11_tell 12 = .ok (.iload_n 2, 1) := by decide +kernel
theorem dX11_tell_13 : decode cX11_tell 13 = .ok (.iconst 2, 1) := by decide +kernel
theorem dX11_tell_14 : decode cX11_tell 14 = .ok (.if_icmp .le 6, 3) := by decide +kernel
theorem dX11_tell_17 : decode cX11_tell 17 = .ok (.bipush (-2), 2) := by decide +kernel
theorem dX11_tell_19 : decode cX11_tell 19 = .ok (.ireturn, 1) := by decide +kernel
theorem dX11_tell_20 : decode cX11_tell 20 = .ok (.aload_n 0, 1) := by decide +kernel
theorem dX11_tell_21 : decode cX11_tell 21 = .ok (.getfield 67, 3) := by decide +kernel
theorem dX11_tell_24 : decode cX11_tell 24 = .ok (.iload_n 1, 1) := by decide +kernel
theorem dX11_tell_25 : decode cX11_tell 25 = .ok (.aload_n 0, 1) := by decide +kernel
theorem dX11_tell_26 : decode cX11_tell 26 = .ok (.getfield 18, 3) := by decide +kernel
theorem dX11_tell_29 : decode cX11_tell 29 = .ok (.aload_n 0, 1) := by decide +kernel
theorem dX11_tell_30 : decode cX11_tell 30 = .ok (.getfield 44, 3) := by decide +kernel
theorem dX11_tell_33 : decode cX11_tell 33 = .ok (.invokevirtual 211, 3) := by decide +kernel
theorem dX11_tell_36 : decode cX11_tell 36 = .ok (.iconst 0, 1) := by decide +kernel
theorem dX11_tell_37 : decode cX11_tell 37 = .ok (.istore_n 3, 1) := by decide +kernel
theorem dX11_tell_38 : decode cX11_tell 38 = .ok (.iconst 0, 1) := by decide +kernel
theorem dX11_tell_39 : decode cX11_tell 39 = .ok (.istore 4, 2) := by decide +kernel
theorem dX11_tell_41 : decode cX11_tell 41 = .ok (.iload 4, 2) := by decide +kernel
theorem dX11_tell_43 : decode cX11_tell 43 = .ok (.aload_n 0, 1) := by decide +kernel
theorem dX11_tell_44 : decode cX11_tell 44 = .ok (.getfield 67, 3) := by decide +kernel
theorem dX11_tell_47 : decode cX11_tell 47 = .ok (.getfield 197, 3) := by decide +kernel
theorem dX11_tell_50 : decode cX11_tell 50 = .ok (.getfield 151, 3) := by decide +kernel
theorem dX11_tell_53 : decode cX11_tell 53 = .ok (.if_icmp .ge 26, 3) := by decide +kernel
theorem dX11_tell_79 : decode cX11_tell 79 = .ok (.iload_n 3, 1) := by decide +kernel
theorem dX11_tell_80 : decode cX11_tell 80 = .ok (.ireturn, 1) := by decide +kernel
set_option maxRecDepth 20000 in
theorem ggX11_uses_X11_reformAt : GoodIn wsX11_uses wsX11_reformAt := goodIn_r _ [11, 12, 3, 205, 206, 207, 208, 209, 210, 211, 212, 213, 214, 215, 216, 217, 218, 219, 220, 221] (by decide +kernel) (by decide +kernel)
set_option maxRecDepth 20000 in
theorem gX11_uses_X11_reformAt : GoodIn wsX11_uses (wsV RX11 138 RX11 yX11_reformAt wsX11_reformAt) := goodIn_app (goodIn_of _ (by decide +kernel)) ggX11_uses_X11_reformAt
theorem dX11_uses_0 : decode cX11_uses 0 = .ok (.aload_n 0, 1) := by decide +kernel
theorem dX11_uses_1 : decode cX11_uses 1 = .ok (.iload_n 1, 1) := by decide +kernel
theorem dX11_uses_2 : decode cX11_uses 2 = .ok (.invokevirtual 138, 3) := by decide +kernel
theorem dX11_uses_5 : decode cX11_uses 5 = .ok (.astore_n 3, 1) := by decide +kernel
theorem dX11_uses_6 : decode cX11_uses 6 = .ok (.aload_n 3, 1) := by decide +kernel
theorem dX11_uses_7 : decode cX11_uses 7 = .ok (.ifnull 15, 3) := by decide +kernel
theorem dX11_uses_22 : decode cX11_uses 22 = .ok (.bipush (-2), 2) := by decide +kernel
theorem dX11_uses_24 : decode cX11_uses 24 = .ok (.ireturn, 1) := by decide +kernel
set_option maxRecDepth 20000 in
theorem ggX11_write_X7_take : GoodIn wsX11_write wsX7_take := goodIn_r _ [14, 15, 278, 279] (by decide +kernel) (by decide +kernel)
set_option maxRecDepth 20000 in
theorem gX11_write_X7_take : GoodIn wsX11_write (wsV RX11 112 RX7 yX7_take wsX7_take) := goodIn_app (goodIn_of _ (by decide +kernel)) ggX11_write_X7_take
set_option maxRecDepth 20000 in
theorem ggX11_write_X11_areStages : GoodIn wsX11_write wsX11_areStages := goodIn_r _ [20, 21, 22, 23, 19, 24, 25, 261, 262, 263, 264, 265, 266, 267, 268, 269, 270, 271, 272, 273, 274, 275, 276, 277] (by decide +kernel) (by decide +kernel)
set_option maxRecDepth 20000 in
theorem gX11_write_X11_areStages : GoodIn wsX11_write (wsV RX11 160 RX11 yX11_areStages wsX11_areStages) := goodIn_app (goodIn_of _ (by decide +kernel)) ggX11_write_X11_areStages
set_option maxRecDepth 20000 in
theorem ggX11_write_X7_hasZero : GoodIn wsX11_write wsX7_hasZero := goodIn_r _ [29, 30, 31, 32, 13, 33, 34, 278, 279] (by decide +kernel) (by decide +kernel)
set_option maxRecDepth 20000 in
theorem gX11_write_X7_hasZero : GoodIn wsX11_write (wsV RX11 239 RX7 yX7_hasZero wsX7_hasZero) := goodIn_app (goodIn_of _ (by decide +kernel)) ggX11_write_X7_hasZero
set_option maxRecDepth 20000 in
theorem ggX11_write_X8_begin : GoodIn wsX11_write wsX8_begin := goodIn_r _ [39, 40, 41, 42, 43, 44, 45, 46, 47, 48, 280, 281, 282, 283, 284, 285, 286, 287] (by decide +kernel) (by decide +kernel)
set_option maxRecDepth 20000 in
theorem gX11_write_X8_begin : GoodIn wsX11_write (wsV RX11 242 RX8 yX8_begin wsX8_begin) := goodIn_app (goodIn_of _ (by decide +kernel)) ggX11_write_X8_begin
set_option maxRecDepth 20000 in
theorem ggX11_write_X6_begin : GoodIn wsX11_write wsX6_begin := goodIn_r _ [53, 54, 55, 56, 57, 58, 59, 60, 61, 288, 289, 290, 291, 292, 293, 294, 295, 296] (by decide +kernel) (by decide +kernel)
set_option maxRecDepth 20000 in
theorem gX11_write_X6_begin : GoodIn wsX11_write (wsV RX11 246 RX6 yX6_begin wsX6_begin) := goodIn_app (goodIn_of _ (by decide +kernel)) ggX11_write_X6_begin
set_option maxRecDepth 20000 in
theorem ggX11_write_X6_finish : GoodIn wsX11_write wsX6_finish := goodIn_r _ [256, 56, 57, 257, 251, 258, 54, 259, 55, 260, 247, 248, 249, 52, 250, 252, 122, 123, 124, 288, 289, 290, 291, 292, 293, 294, 295, 296] (by decide +kernel) (by decide +kernel)
set_option maxRecDepth 20000 in
theorem gX11_write_X6_finish : GoodIn wsX11_write (wsV RX11 269 RX6 yX6_finish wsX6_finish) := goodIn_app (goodIn_of _ (by decide +kernel)) ggX11_write_X6_finish
theorem dX11_write_0 : decode cX11_write 0 = .ok (.aload_n 0, 1) := by decide +kernel
theorem dX11_write_1 : decode cX11_write 1 = .ok (.getfield 12, 3) := by decide +kernel
theorem dX11_write_4 : decode cX11_write 4 = .ok (.invokevirtual 112, 3) := by decide +kernel
theorem dX11_write_7 : decode cX11_write 7 = .ok (.istore_n 3, 1) := by decide +kernel
theorem dX11_write_8 : decode cX11_write 8 = .ok (.aload_n 0, 1) := by decide +kernel
theorem dX11_write_9 : decode cX11_write 9 = .ok (.iload_n 1, 1) := by decide +kernel
theorem dX11_write_10 : decode cX11_write 10 = .ok (.iload_n 2, 1) := by decide +kernel
theorem dX11_write_11 : decode cX11_write 11 = .ok (.invokevirtual 160, 3) := by decide +kernel
theorem dX11_write_14 : decode cX11_write 14 = .ok (.ifCond .ne 6, 3) := by decide +kernel
theorem dX11_write_17 : decode cX11_write 17 = .ok (.bipush (-2), 2) := by decide +kernel
theorem dX11_write_19 : decode cX11_write 19 = .ok (.ireturn, 1) := by decide +kernel
theorem dX11_write_20 : decode cX11_write 20 = .ok (.aload_n 0, 1) := by decide +kernel
theorem dX11_write_21 : decode cX11_write 21 = .ok (.getfield 12, 3) := by decide +kernel
theorem dX11_write_24 : decode cX11_write 24 = .ok (.iload_n 3, 1) := by decide +kernel
theorem dX11_write_25 : decode cX11_write 25 = .ok (.invokevirtual 239, 3) := by decide +kernel
theorem dX11_write_28 : decode cX11_write 28 = .ok (.ifCond .eq 5, 3) := by decide +kernel
theorem dX11_write_33 : decode cX11_write 33 = .ok (.aload_n 0, 1) := by decide +kernel
theorem dX11_write_34 : decode cX11_write 34 = .ok (.getfield 87, 3) := by decide +kernel
theorem dX11_write_37 : decode cX11_write 37 = .ok (.aload_n 0, 1) := by decide +kernel
theorem dX11_write_38 : decode cX11_write 38 = .ok (.getfield 12, 3) := by decide +kernel
theorem dX11_write_41 : decode cX11_write 41 = .ok (.getfield 120, 3) := by decide +kernel
theorem dX11_write_44 : decode cX11_write 44 = .ok (.iload_n 3, 1) := by decide +kernel
theorem dX11_write_45 : decode cX11_write 45 = .ok (.invokevirtual 242, 3) := by decide +kernel
theorem dX11_write_48 : decode cX11_write 48 = .ok (.aload_n 0, 1) := by decide +kernel
theorem dX11_write_49 : decode cX11_write 49 = .ok (.getfield 94, 3) := by decide +kernel
theorem dX11_write_52 : decode cX11_write 52 = .ok (.invokevirtual 246, 3) := by decide +kernel
theorem dX11_write_55 : decode cX11_write 55 = .ok (.iconst 0, 1) := by decide +kernel
theorem dX11_write_56 : decode cX11_write 56 = .ok (.istore 4, 2) := by decide +kernel
theorem dX11_write_58 : decode cX11_write 58 = .ok (.iload 4, 2) := by decide +kernel
theorem dX11_write_60 : decode cX11_write 60 = .ok (.iload_n 3, 1) := by decide +kernel
theorem dX11_write_61 : decode cX11_write 61 = .ok (.if_icmp .ge 106, 3) := by decide +kernel
theorem dX11_write_167 : decode cX11_write 167 = .ok (.aload_n 0, 1) := by decide +kernel
theorem dX11_write_168 : decode cX11_write 168 = .ok (.getfield 94, 3) := by decide +kernel
theorem dX11_write_171 : decode cX11_write 171 = .ok (.aload_n 0, 1) := by decide +kernel
theorem dX11_write_172 : decode cX11_write 172 = .ok (.getfield 12, 3) := by decide +kernel
theorem dX11_write_175 : decode cX11_write 175 = .ok (.getfield 120, 3) := by decide +kernel
theorem dX11_write_178 : decode cX11_write 178 = .ok (.iload_n 3, 1) := by decide +kernel
theorem dX11_write_179 : decode cX11_write 179 = .ok (.invokevirtual 269, 3) := by decide +kernel
theorem dX11_write_182 : decode cX11_write 182 = .ok (.ireturn, 1) := by decide +kernel
set_option maxRecDepth 20000 in
theorem ggX11_written_X6_byteAt : GoodIn wsX11_written wsX6_byteAt := goodIn_r _ [6, 7, 8, 26, 27, 28, 29, 30, 31, 32, 33, 34] (by decide +kernel) (by decide +kernel)
set_option maxRecDepth 20000 in
theorem gX11_written_X6_byteAt : GoodIn wsX11_written (wsV RX11 273 RX6 yX6_byteAt wsX6_byteAt) := goodIn_app (goodIn_of _ (by decide +kernel)) ggX11_written_X6_byteAt
theorem dX11_written_0 : decode cX11_written 0 = .ok (.aload_n 0, 1) := by decide +kernel
theorem dX11_written_1 : decode cX11_written 1 = .ok (.getfield 94, 3) := by decide +kernel
theorem dX11_written_4 : decode cX11_written 4 = .ok (.iload_n 1, 1) := by decide +kernel
theorem dX11_written_5 : decode cX11_written 5 = .ok (.invokevirtual 273, 3) := by decide +kernel
theorem dX11_written_8 : decode cX11_written 8 = .ok (.ireturn, 1) := by decide +kernel
set_option maxRecDepth 20000 in
theorem ggX11_counted_X6_tallyOf : GoodIn wsX11_counted wsX6_tallyOf := goodIn_r _ [6, 7, 8, 26, 27, 28, 29, 30, 31, 32, 33, 34] (by decide +kernel) (by decide +kernel)
set_option maxRecDepth 20000 in
theorem gX11_counted_X6_tallyOf : GoodIn wsX11_counted (wsV RX11 277 RX6 yX6_tallyOf wsX6_tallyOf) := goodIn_app (goodIn_of _ (by decide +kernel)) ggX11_counted_X6_tallyOf
theorem dX11_counted_0 : decode cX11_counted 0 = .ok (.aload_n 0, 1) := by decide +kernel
theorem dX11_counted_1 : decode cX11_counted 1 = .ok (.getfield 94, 3) := by decide +kernel
theorem dX11_counted_4 : decode cX11_counted 4 = .ok (.iload_n 1, 1) := by decide +kernel
theorem dX11_counted_5 : decode cX11_counted 5 = .ok (.invokevirtual 277, 3) := by decide +kernel
theorem dX11_counted_8 : decode cX11_counted 8 = .ok (.ireturn, 1) := by decide +kernel
set_option maxRecDepth 20000 in
theorem ggX11_mixed_X7_take : GoodIn wsX11_mixed wsX7_take := goodIn_r _ [14, 15, 298, 299] (by decide +kernel) (by decide +kernel)
set_option maxRecDepth 20000 in
theorem gX11_mixed_X7_take : GoodIn wsX11_mixed (wsV RX11 112 RX7 yX7_take wsX7_take) := goodIn_app (goodIn_of _ (by decide +kernel)) ggX11_mixed_X7_take
set_option maxRecDepth 20000 in
theorem ggX11_mixed_X7_lines : GoodIn wsX11_mixed wsX7_lines := goodIn_r _ [19, 20, 21, 22, 13, 23, 24, 298, 299] (by decide +kernel) (by decide +kernel)
set_option maxRecDepth 20000 in
theorem gX11_mixed_X7_lines : GoodIn wsX11_mixed (wsV RX11 280 RX7 yX7_lines wsX7_lines) := goodIn_app (goodIn_of _ (by decide +kernel)) ggX11_mixed_X7_lines
set_option maxRecDepth 20000 in
theorem ggX11_mixed_X7_hasZero : GoodIn wsX11_mixed wsX7_hasZero := goodIn_r _ [28, 20, 21, 22, 13, 23, 24, 298, 299] (by decide +kernel) (by decide +kernel)
set_option maxRecDepth 20000 in
theorem gX11_mixed_X7_hasZero : GoodIn wsX11_mixed (wsV RX11 239 RX7 yX7_hasZero wsX7_hasZero) := goodIn_app (goodIn_of _ (by decide +kernel)) ggX11_mixed_X7_hasZero
set_option maxRecDepth 20000 in
theorem ggX11_mixed_X0_fill : GoodIn wsX11_mixed wsX0_fill := goodIn_r _ [33, 34, 35, 36, 37, 38, 39, 40, 41, 42, 43, 44, 45, 46, 47, 48, 49, 50, 51, 52, 53, 54, 55, 56, 57, 58, 59, 60, 61, 62, 63, 64, 32, 65, 66, 67, 68, 69, 70, 71, 72, 73, 74, 75, 76, 77, 78, 79, 80, 81, 82, 83, 84, 85, 86, 87, 88, 89, 90, 91, 92, 93, 94, 95, 96, 97, 98, 99, 100, 101, 102, 103, 104, 105, 106, 107, 108, 109, 110, 111, 112, 113, 114, 115, 116, 117, 118, 119, 120, 121, 122, 123, 124, 125, 126, 127, 128, 129, 130, 131, 132, 133, 134, 135, 136, 137, 138, 139, 140, 141, 142, 143, 144, 145, 146, 147, 148, 149, 150, 151, 152, 153, 154, 155, 156, 157, 158, 159, 160, 161, 162, 163, 164, 165, 166, 167, 168, 169, 170, 171, 172, 173, 174, 175, 176, 177, 178, 179, 180, 181, 182, 183, 184, 185, 186, 187, 188, 189, 190, 191, 192, 193, 194, 195, 196, 197, 198, 199, 200, 201, 202, 203, 204, 205, 308, 309, 310, 311, 312, 313, 314, 315, 316, 317, 318, 319, 320, 321, 322, 323, 324, 325, 326, 327, 328, 329, 330, 331, 332, 333, 334, 335, 336, 337, 338, 339, 340, 341, 342, 343, 344, 345, 346, 347, 348, 349] (by decide +kernel) (by decide +kernel)
set_option maxRecDepth 20000 in
theorem gX11_mixed_X0_fill : GoodIn wsX11_mixed (wsV RX11 211 RX0 yX0_fill wsX0_fill) := goodIn_app (goodIn_of _ (by decide +kernel)) ggX11_mixed_X0_fill
set_option maxRecDepth 20000 in
theorem ggX11_mixed_X2_begin : GoodIn wsX11_mixed wsX2_begin := goodIn_r _ [210, 211, 154, 155, 156, 212, 213, 214, 215, 216, 128, 217, 350, 351, 352, 353, 354, 355] (by decide +kernel) (by decide +kernel)
set_option maxRecDepth 20000 in
theorem gX11_mixed_X2_begin : GoodIn wsX11_mixed (wsV RX11 283 RX2 yX2_begin wsX2_begin) := goodIn_app (goodIn_of _ (by decide +kernel)) ggX11_mixed_X2_begin
set_option maxRecDepth 20000 in
theorem ggX11_mixed_X8_begin : GoodIn wsX11_mixed wsX8_begin := goodIn_r _ [222, 223, 224, 154, 155, 156, 225, 226, 227, 228, 300, 301, 302, 303, 304, 305, 306, 307] (by decide +kernel) (by decide +kernel)
set_option maxRecDepth 20000 in
theorem gX11_mixed_X8_begin : GoodIn wsX11_mixed (wsV RX11 242 RX8 yX8_begin wsX8_begin) := goodIn_app (goodIn_of _ (by decide +kernel)) ggX11_mixed_X8_begin
set_option maxRecDepth 20000 in
theorem ggX11_mixed_X2_settle : GoodIn wsX11_mixed wsX2_settle := goodIn_r _ [269, 212, 213, 270, 214, 271, 272, 273, 274, 275, 209, 276, 277, 278, 279, 280, 350, 351, 352, 353, 354, 355] (by decide +kernel) (by decide +kernel)
set_option maxRecDepth 20000 in
theorem gX11_mixed_X2_settle : GoodIn wsX11_mixed (wsV RX11 288 RX2 yX2_settle wsX2_settle) := goodIn_app (goodIn_of _ (by decide +kernel)) ggX11_mixed_X2_settle
theorem dX11_mixed_0 : decode cX11_mixed 0 = .ok (.aload_n 0, 1) := by decide +kernel
theorem dX11_mixed_1 : decode cX11_mixed 1 = .ok (.getfield 12, 3) := by decide +kernel
theorem dX11_mixed_4 : decode cX11_mixed 4 = .ok (.invokevirtual 112, 3) := by decide +kernel
theorem dX11_mixed_7 : decode cX11_mixed 7 = .ok (.istore_n 2, 1) := by decide +kernel
theorem dX11_mixed_8 : decode cX11_mixed 8 = .ok (.iload_n 1, 1) := by decide +kernel
theorem dX11_mixed_9 : decode cX11_mixed 9 = .ok (.ifCond .lt 9, 3) := by decide +kernel
theorem dX11_mixed_12 : decode cX11_mixed 12 = .ok (.iload_n 1, 1) := by decide +kernel
theorem dX11_mixed_13 : decode cX11_mixed 13 = .ok (.bipush 50, 2) := by decide +kernel
theorem dX11_mixed_15 : decode cX11_mixed 15 = .ok (.if_icmp .le 6, 3) := by decide +kernel
theorem dX11_mixed_18 : decode cX11_mixed 18 = .ok (.bipush (-2), 2) := by decide +kernel
theorem dX11_mixed_20 : decode cX11_mixed 20 = .ok (.ireturn, 1) := by decide +kernel
theorem dX11_mixed_21 : decode cX11_mixed 21 = .ok (.aload_n 0, 1) := by decide +kernel
theorem dX11_mixed_22 : decode cX11_mixed 22 = .ok (.getfield 12, 3) := by decide +kernel
theorem dX11_mixed_25 : decode cX11_mixed 25 = .ok (.iload_n 2, 1) := by decide +kernel
theorem dX11_mixed_26 : decode cX11_mixed 26 = .ok (.invokevirtual 280, 3) := by decide +kernel
theorem dX11_mixed_29 : decode cX11_mixed 29 = .ok (.istore_n 3, 1) := by decide +kernel
theorem dX11_mixed_30 : decode cX11_mixed 30 = .ok (.aload_n 0, 1) := by decide +kernel
theorem dX11_mixed_31 : decode cX11_mixed 31 = .ok (.getfield 12, 3) := by decide +kernel
theorem dX11_mixed_34 : decode cX11_mixed 34 = .ok (.iload_n 2, 1) := by decide +kernel
theorem dX11_mixed_35 : decode cX11_mixed 35 = .ok (.invokevirtual 239, 3) := by decide +kernel
theorem dX11_mixed_38 : decode cX11_mixed 38 = .ok (.ifCond .ne 9, 3) := by decide +kernel
theorem dX11_mixed_41 : decode cX11_mixed 41 = .ok (.iload_n 3, 1) := by decide +kernel
theorem dX11_mixed_42 : decode cX11_mixed 42 = .ok (.bipush 40, 2) := by decide +kernel
theorem dX11_mixed_44 : decode cX11_mixed 44 = .ok (.if_icmp .le 5, 3) := by decide +kernel
theorem dX11_mixed_49 : decode cX11_mixed 49 = .ok (.aload_n 0, 1) := by decide +kernel
theorem dX11_mixed_50 : decode cX11_mixed 50 = .ok (.getfield 67, 3) := by decide +kernel
theorem dX11_mixed_53 : decode cX11_mixed 53 = .ok (.aload_n 0, 1) := by decide +kernel
theorem dX11_mixed_54 : decode cX11_mixed 54 = .ok (.getfield 22, 3) := by decide +kernel
theorem dX11_mixed_57 : decode cX11_mixed 57 = .ok (.aload_n 0, 1) := by decide +kernel
theorem dX11_mixed_58 : decode cX11_mixed 58 = .ok (.getfield 18, 3) := by decide +kernel
theorem dX11_mixed_61 : decode cX11_mixed 61 = .ok (.aload_n 0, 1) := by decide +kernel
theorem dX11_mixed_62 : decode cX11_mixed 62 = .ok (.getfield 44, 3) := by decide +kernel
theorem dX11_mixed_65 : decode cX11_mixed 65 = .ok (.invokevirtual 211, 3) := by decide +kernel
theorem dX11_mixed_68 : decode cX11_mixed 68 = .ok (.aload_n 0, 1) := by decide +kernel
theorem dX11_mixed_69 : decode cX11_mixed 69 = .ok (.getfield 101, 3) := by decide +kernel
theorem dX11_mixed_72 : decode cX11_mixed 72 = .ok (.iload_n 3, 1) := by decide +kernel
theorem dX11_mixed_73 : decode cX11_mixed 73 = .ok (.aload_n 0, 1) := by decide +kernel
theorem dX11_mixed_74 : decode cX11_mixed 74 = .ok (.getfield 22, 3) := by decide +kernel
theorem dX11_mixed_77 : decode cX11_mixed 77 = .ok (.iconst 1, 1) := by decide +kernel
theorem dX11_mixed_78 : decode cX11_mixed 78 = .ok (.iadd, 1) := by decide +kernel
theorem dX11_mixed_79 : decode cX11_mixed 79 = .ok (.invokevirtual 283, 3) := by decide +kernel
theorem dX11_mixed_82 : decode cX11_mixed 82 = .ok (.aload_n 0, 1) := by decide +kernel
theorem dX11_mixed_83 : decode cX11_mixed 83 = .ok (.getfield 87, 3) := by decide +kernel
theorem dX11_mixed_86 : decode cX11_mixed 86 = .ok (.aload_n 0, 1) := by decide +kernel
theorem dX11_mixed_87 : decode cX11_mixed 87 = .ok (.getfield 12, 3) := by decide +kernel
theorem dX11_mixed_90 : decode cX11_mixed 90 = .ok (.getfield 120, 3) := by decide +kernel
theorem dX11_mixed_93 : decode cX11_mixed 93 = .ok (.iload_n 2, 1) := by decide +kernel
theorem dX11_mixed_94 : decode cX11_mixed 94 = .ok (.invokevirtual 242, 3) := by decide +kernel
theorem dX11_mixed_97 : decode cX11_mixed 97 = .ok (.iconst 0, 1) := by decide +kernel
theorem dX11_mixed_98 : decode cX11_mixed 98 = .ok (.istore 4, 2) := by decide +kernel
theorem dX11_mixed_100 : decode cX11_mixed 100 = .ok (.iload 4, 2) := by decide +kernel
theorem dX11_mixed_102 : decode cX11_mixed 102 = .ok (.iload_n 2, 1) := by decide +kernel
theorem dX11_mixed_103 : decode cX11_mixed 103 = .ok (.if_icmp .ge 33, 3) := by decide +kernel
theorem dX11_mixed_136 : decode cX11_mixed 136 = .ok (.aload_n 0, 1) := by decide +kernel
theorem dX11_mixed_137 : decode cX11_mixed 137 = .ok (.getfield 101, 3) := by decide +kernel
theorem dX11_mixed_140 : decode cX11_mixed 140 = .ok (.iload_n 1, 1) := by decide +kernel
theorem dX11_mixed_141 : decode cX11_mixed 141 = .ok (.invokevirtual 288, 3) := by decide +kernel
theorem dX11_mixed_144 : decode cX11_mixed 144 = .ok (.ireturn, 1) := by decide +kernel
set_option maxRecDepth 20000 in
theorem ggX11_line_X2_stageOf : GoodIn wsX11_line wsX2_stageOf := goodIn_r _ [6, 7, 8, 26, 27, 28, 29, 30, 31] (by decide +kernel) (by decide +kernel)
set_option maxRecDepth 20000 in
theorem gX11_line_X2_stageOf : GoodIn wsX11_line (wsV RX11 291 RX2 yX2_stageOf wsX2_stageOf) := goodIn_app (goodIn_of _ (by decide +kernel)) ggX11_line_X2_stageOf
theorem dX11_line_0 : decode cX11_line 0 = .ok (.aload_n 0, 1) := by decide +kernel
theorem dX11_line_1 : decode cX11_line 1 = .ok (.getfield 101, 3) := by decide +kernel
theorem dX11_line_4 : decode cX11_line 4 = .ok (.iload_n 1, 1) := by decide +kernel
theorem dX11_line_5 : decode cX11_line 5 = .ok (.invokevirtual 291, 3) := by decide +kernel
theorem dX11_line_8 : decode cX11_line 8 = .ok (.ireturn, 1) := by decide +kernel
theorem dX11_count_0 : decode cX11_count 0 = .ok (.iload_n 1, 1) := by decide +kernel
theorem dX11_count_1 : decode cX11_count 1 = .ok (.tableswitch 51 0 2 #[27, 32, 43], 27) := by decide +kernel
theorem dX11_count_28 : decode cX11_count 28 = .ok (.aload_n 0, 1) := by decide +kernel
theorem dX11_count_29 : decode cX11_count 29 = .ok (.getfield 22, 3) := by decide +kernel
theorem dX11_count_32 : decode cX11_count 32 = .ok (.ireturn, 1) := by decide +kernel
theorem dX11_count_33 : decode cX11_count 33 = .ok (.aload_n 0, 1) := by decide +kernel
theorem dX11_count_34 : decode cX11_count 34 = .ok (.getfield 67, 3) := by decide +kernel
theorem dX11_count_37 : decode cX11_count 37 = .ok (.getfield 197, 3) := by decide +kernel
theorem dX11_count_40 : decode cX11_count 40 = .ok (.getfield 151, 3) := by decide +kernel
theorem dX11_count_43 : decode cX11_count 43 = .ok (.ireturn, 1) := by decide +kernel
theorem dX11_count_44 : decode cX11_count 44 = .ok (.aload_n 0, 1) := by decide +kernel
theorem dX11_count_45 : decode cX11_count 45 = .ok (.getfield 12, 3) := by decide +kernel
theorem dX11_count_48 : decode cX11_count 48 = .ok (.getfield 105, 3) := by decide +kernel
theorem dX11_count_51 : decode cX11_count 51 = .ok (.ireturn, 1) := by decide +kernel
theorem dX11_count_52 : decode cX11_count 52 = .ok (.iconst (-1), 1) := by decide +kernel
theorem dX11_count_53 : decode cX11_count 53 = .ok (.ireturn, 1) := by decide +kernel
theorem dX11_reformAt_0 : decode cX11_reformAt 0 = .ok (.iload_n 1, 1) := by decide +kernel
theorem dX11_reformAt_1 : decode cX11_reformAt 1 = .ok (.ifCond .lt 11, 3) := by decide +kernel
theorem dX11_reformAt_4 : decode cX11_reformAt 4 = .ok (.iload_n 1, 1) := by decide +kernel
theorem dX11_reformAt_5 : decode cX11_reformAt 5 = .ok (.aload_n 0, 1) := by decide +kernel
theorem dX11_reformAt_6 : decode cX11_reformAt 6 = .ok (.getfield 22, 3) := by decide +kernel
theorem dX11_reformAt_9 : decode cX11_reformAt 9 = .ok (.if_icmp .lt 7, 3) := by decide +kernel
theorem dX11_reformAt_12 : decode cX11_reformAt 12 = .ok (.aconst_null, 1) := by decide +kernel
theorem dX11_reformAt_13 : decode cX11_reformAt 13 = .ok (.goto 9, 3) := by decide +kernel
theorem dX11_reformAt_22 : decode cX11_reformAt 22 = .ok (.areturn, 1) := by decide +kernel
theorem dX11_isStage_0 : decode cX11_isStage 0 = .ok (.iload_n 1, 1) := by decide +kernel
theorem dX11_isStage_1 : decode cX11_isStage 1 = .ok (.ifCond .lt 15, 3) := by decide +kernel
theorem dX11_isStage_4 : decode cX11_isStage 4 = .ok (.iload_n 1, 1) := by decide +kernel
theorem dX11_isStage_5 : decode cX11_isStage 5 = .ok (.aload_n 0, 1) := by decide +kernel
theorem dX11_isStage_6 : decode cX11_isStage 6 = .ok (.getfield 22, 3) := by decide +kernel
theorem dX11_isStage_9 : decode cX11_isStage 9 = .ok (.if_icmp .gt 7, 3) := by decide +kernel
theorem dX11_isStage_12 : decode cX11_isStage 12 = .ok (.iconst 1, 1) := by decide +kernel
theorem dX11_isStage_13 : decode cX11_isStage 13 = .ok (.goto 4, 3) := by decide +kernel
theorem dX11_isStage_16 : decode cX11_isStage 16 = .ok (.iconst 0, 1) := by decide +kernel
theorem dX11_isStage_17 : decode cX11_isStage 17 = .ok (.ireturn, 1) := by decide +kernel
set_option maxRecDepth 20000 in
theorem ggX11_areStages_X11_isStage : GoodIn wsX11_areStages wsX11_isStage := goodIn_r _ [5, 6, 7, 8, 9, 10, 11, 12, 13, 14, 15, 16, 17, 18, 19, 20, 21, 22, 23] (by decide +kernel) (by decide +kernel)
set_option maxRecDepth 20000 in
theorem gX11_areStages_X11_isStage : GoodIn wsX11_areStages (wsV RX11 208 RX11 yX11_isStage wsX11_isStage) := goodIn_app (goodIn_of _ (by decide +kernel)) ggX11_areStages_X11_isStage
theorem dX11_areStages_0 : decode cX11_areStages 0 = .ok (.aload_n 0, 1) := by decide +kernel
theorem dX11_areStages_1 : decode cX11_areStages 1 = .ok (.iload_n 1, 1) := by decide +kernel
theorem dX11_areStages_2 : decode cX11_areStages 2 = .ok (.invokevirtual 208, 3) := by decide +kernel
theorem dX11_areStages_5 : decode cX11_areStages 5 = .ok (.ifCond .eq 20, 3) := by decide +kernel
theorem dX11_areStages_8 : decode cX11_areStages 8 = .ok (.aload_n 0, 1) := by decide +kernel
theorem dX11_areStages_9 : decode cX11_areStages 9 = .ok (.iload_n 2, 1) := by decide +kernel
theorem dX11_areStages_10 : decode cX11_areStages 10 = .ok (.invokevirtual 208, 3) := by decide +kernel
theorem dX11_areStages_13 : decode cX11_areStages 13 = .ok (.ifCond .eq 12, 3) := by decide +kernel
theorem dX11_areStages_16 : decode cX11_areStages 16 = .ok (.iload_n 1, 1) := by decide +kernel
theorem dX11_areStages_17 : decode cX11_areStages 17 = .ok (.iload_n 2, 1) := by decide +kernel
theorem dX11_areStages_18 : decode cX11_areStages 18 = .ok (.if_icmp .gt 7, 3) := by decide +kernel
theorem dX11_areStages_21 : decode cX11_areStages 21 = .ok (.iconst 1, 1) := by decide +kernel
theorem dX11_areStages_22 : decode cX11_areStages 22 = .ok (.goto 4, 3) := by decide +kernel
theorem dX11_areStages_25 : decode cX11_areStages 25 = .ok (.iconst 0, 1) := by decide +kernel
theorem dX11_areStages_26 : decode cX11_areStages 26 = .ok (.ireturn, 1) := by decide +kernel
theorem dX12_init_0 : decode cX12_init 0 = .ok (.aload_n 0, 1) := by decide +kernel
theorem dX12_init_1 : decode cX12_init 1 = .ok (.invokespecial 1, 3) := by decide +kernel
theorem dX12_init_4 : decode cX12_init 4 = .ok (.aload_n 0, 1) := by decide +kernel
theorem dX12_init_5 : decode cX12_init 5 = .ok (.sipush 2000, 3) := by decide +kernel
theorem dX12_init_8 : decode cX12_init 8 = .ok (.newarray .byte, 2) := by decide +kernel
theorem dX12_init_10 : decode cX12_init 10 = .ok (.putfield 7, 3) := by decide +kernel
theorem dX12_init_13 : decode cX12_init 13 = .ok (.aload_n 0, 1) := by decide +kernel
theorem dX12_init_14 : decode cX12_init 14 = .ok (.iconst (-1), 1) := by decide +kernel
theorem dX12_init_15 : decode cX12_init 15 = .ok (.putfield 13, 3) := by decide +kernel
theorem dX12_init_18 : decode cX12_init 18 = .ok (.aload_n 0, 1) := by decide +kernel
theorem dX12_init_19 : decode cX12_init 19 = .ok (.bipush 7, 2) := by decide +kernel
theorem dX12_init_21 : decode cX12_init 21 = .ok (.newarray .int, 2) := by decide +kernel
theorem dX12_init_23 : decode cX12_init 23 = .ok (.putfield 17, 3) := by decide +kernel
theorem dX12_init_26 : decode cX12_init 26 = .ok (.aload_n 0, 1) := by decide +kernel
theorem dX12_init_27 : decode cX12_init 27 = .ok (.bipush 7, 2) := by decide +kernel
theorem dX12_init_29 : decode cX12_init 29 = .ok (.newarray .int, 2) := by decide +kernel
theorem dX12_init_31 : decode cX12_init 31 = .ok (.putfield 21, 3) := by decide +kernel
theorem dX12_init_34 : decode cX12_init 34 = .ok (.aload_n 0, 1) := by decide +kernel
theorem dX12_init_35 : decode cX12_init 35 = .ok (.bipush 7, 2) := by decide +kernel
theorem dX12_init_37 : decode cX12_init 37 = .ok (.newarray .int, 2) := by decide +kernel
theorem dX12_init_39 : decode cX12_init 39 = .ok (.putfield 24, 3) := by decide +kernel
theorem dX12_init_42 : decode cX12_init 42 = .ok (.aload_n 0, 1) := by decide +kernel
theorem dX12_init_43 : decode cX12_init 43 = .ok (.bipush 7, 2) := by decide +kernel
theorem dX12_init_45 : decode cX12_init 45 = .ok (.newarray .int, 2) := by decide +kernel
theorem dX12_init_47 : decode cX12_init 47 = .ok (.putfield 27, 3) := by decide +kernel
theorem dX12_init_50 : decode cX12_init 50 = .ok (.aload_n 0, 1) := by decide +kernel
theorem dX12_init_51 : decode cX12_init 51 = .ok (.sipush 17920, 3) := by decide +kernel
theorem dX12_init_54 : decode cX12_init 54 = .ok (.newarray .byte, 2) := by decide +kernel
theorem dX12_init_56 : decode cX12_init 56 = .ok (.putfield 30, 3) := by decide +kernel
theorem dX12_init_59 : decode cX12_init 59 = .ok (.aload_n 0, 1) := by decide +kernel
theorem dX12_init_60 : decode cX12_init 60 = .ok (.sipush 1120, 3) := by decide +kernel
theorem dX12_init_63 : decode cX12_init 63 = .ok (.newarray .int, 2) := by decide +kernel
theorem dX12_init_65 : decode cX12_init 65 = .ok (.putfield 33, 3) := by decide +kernel
theorem dX12_init_68 : decode cX12_init 68 = .ok (.aload_n 0, 1) := by decide +kernel
theorem dX12_init_69 : decode cX12_init 69 = .ok (.sipush 280, 3) := by decide +kernel
theorem dX12_init_72 : decode cX12_init 72 = .ok (.newarray .boolean, 2) := by decide +kernel
theorem dX12_init_74 : decode cX12_init 74 = .ok (.putfield 36, 3) := by decide +kernel
theorem dX12_init_77 : decode cX12_init 77 = .ok (.aload_n 0, 1) := by decide +kernel
theorem dX12_init_78 : decode cX12_init 78 = .ok (.sipush 280, 3) := by decide +kernel
theorem dX12_init_81 : decode cX12_init 81 = .ok (.newarray .boolean, 2) := by decide +kernel
theorem dX12_init_83 : decode cX12_init 83 = .ok (.putfield 40, 3) := by decide +kernel
theorem dX12_init_86 : decode cX12_init 86 = .ok (.aload_n 0, 1) := by decide +kernel
theorem dX12_init_87 : decode cX12_init 87 = .ok (.sipush 4480, 3) := by decide +kernel
theorem dX12_init_90 : decode cX12_init 90 = .ok (.newarray .byte, 2) := by decide +kernel
theorem dX12_init_92 : decode cX12_init 92 = .ok (.putfield 43, 3) := by decide +kernel
theorem dX12_init_95 : decode cX12_init 95 = .ok (.aload_n 0, 1) := by decide +kernel
theorem dX12_init_96 : decode cX12_init 96 = .ok (.sipush 280, 3) := by decide +kernel
end
section
theorem dX12_init_99 : decode cX12_init 99 = .ok (.newarray .int, 2) := by decide +kernel
theorem dX12_init_101 : decode cX12_init 101 = .ok (.putfield 46, 3) := by decide +kernel
theorem dX12_init_104 : decode cX12_init 104 = .ok (.aload_n 0, 1) := by decide +kernel
theorem dX12_init_105 : decode cX12_init 105 = .ok (.sipush 8960, 3) := by decide +kernel
theorem dX12_init_108 : decode cX12_init 108 = .ok (.newarray .byte, 2) := by decide +kernel
theorem dX12_init_110 : decode cX12_init 110 = .ok (.putfield 49, 3) := by decide +kernel
theorem dX12_init_113 : decode cX12_init 113 = .ok (.aload_n 0, 1) := by decide +kernel
theorem dX12_init_114 : decode cX12_init 114 = .ok (.sipush 560, 3) := by decide +kernel
theorem dX12_init_117 : decode cX12_init 117 = .ok (.newarray .int, 2) := by decide +kernel
theorem dX12_init_119 : decode cX12_init 119 = .ok (.putfield 52, 3) := by decide +kernel
theorem dX12_init_122 : decode cX12_init 122 = .ok (.aload_n 0, 1) := by decide +kernel
theorem dX12_init_123 : decode cX12_init 123 = .ok (.bipush 24, 2) := by decide +kernel
theorem dX12_init_125 : decode cX12_init 125 = .ok (.newarray .byte, 2) := by decide +kernel
theorem dX12_init_127 : decode cX12_init 127 = .ok (.putfield 55, 3) := by decide +kernel
theorem dX12_init_130 : decode cX12_init 130 = .ok (.aload_n 0, 1) := by decide +kernel
theorem dX12_init_131 : decode cX12_init 131 = .ok (.bipush 24, 2) := by decide +kernel
theorem dX12_init_133 : decode cX12_init 133 = .ok (.newarray .int, 2) := by decide +kernel
theorem dX12_init_135 : decode cX12_init 135 = .ok (.putfield 58, 3) := by decide +kernel
theorem dX12_init_138 : decode cX12_init 138 = .ok (.aload_n 0, 1) := by decide +kernel
theorem dX12_init_139 : decode cX12_init 139 = .ok (.sipush 720, 3) := by decide +kernel
theorem dX12_init_142 : decode cX12_init 142 = .ok (.newarray .int, 2) := by decide +kernel
theorem dX12_init_144 : decode cX12_init 144 = .ok (.putfield 61, 3) := by decide +kernel
theorem dX12_init_147 : decode cX12_init 147 = .ok (.aload_n 0, 1) := by decide +kernel
theorem dX12_init_148 : decode cX12_init 148 = .ok (.bipush 30, 2) := by decide +kernel
theorem dX12_init_150 : decode cX12_init 150 = .ok (.newarray .int, 2) := by decide +kernel
theorem dX12_init_152 : decode cX12_init 152 = .ok (.putfield 64, 3) := by decide +kernel
theorem dX12_init_155 : decode cX12_init 155 = .ok (.aload_n 0, 1) := by decide +kernel
theorem dX12_init_156 : decode cX12_init 156 = .ok (.bipush 25, 2) := by decide +kernel
theorem dX12_init_158 : decode cX12_init 158 = .ok (.newarray .boolean, 2) := by decide +kernel
theorem dX12_init_160 : decode cX12_init 160 = .ok (.putfield 67, 3) := by decide +kernel
theorem dX12_init_163 : decode cX12_init 163 = .ok (.aload_n 0, 1) := by decide +kernel
theorem dX12_init_164 : decode cX12_init 164 = .ok (.sipush 400, 3) := by decide +kernel
theorem dX12_init_167 : decode cX12_init 167 = .ok (.newarray .byte, 2) := by decide +kernel
theorem dX12_init_169 : decode cX12_init 169 = .ok (.putfield 70, 3) := by decide +kernel
theorem dX12_init_172 : decode cX12_init 172 = .ok (.aload_n 0, 1) := by decide +kernel
theorem dX12_init_173 : decode cX12_init 173 = .ok (.sipush 400, 3) := by decide +kernel
theorem dX12_init_176 : decode cX12_init 176 = .ok (.newarray .byte, 2) := by decide +kernel
theorem dX12_init_178 : decode cX12_init 178 = .ok (.putfield 73, 3) := by decide +kernel
theorem dX12_init_181 : decode cX12_init 181 = .ok (.aload_n 0, 1) := by decide +kernel
theorem dX12_init_182 : decode cX12_init 182 = .ok (.sipush 720, 3) := by decide +kernel
theorem dX12_init_185 : decode cX12_init 185 = .ok (.newarray .byte, 2) := by decide +kernel
theorem dX12_init_187 : decode cX12_init 187 = .ok (.putfield 76, 3) := by decide +kernel
theorem dX12_init_190 : decode cX12_init 190 = .ok (.aload_n 0, 1) := by decide +kernel
theorem dX12_init_191 : decode cX12_init 191 = .ok (.bipush 30, 2) := by decide +kernel
theorem dX12_init_193 : decode cX12_init 193 = .ok (.newarray .int, 2) := by decide +kernel
theorem dX12_init_195 : decode cX12_init 195 = .ok (.putfield 79, 3) := by decide +kernel
theorem dX12_init_198 : decode cX12_init 198 = .ok (.aload_n 0, 1) := by decide +kernel
theorem dX12_init_199 : decode cX12_init 199 = .ok (.sipush 288, 3) := by decide +kernel
theorem dX12_init_202 : decode cX12_init 202 = .ok (.newarray .byte, 2) := by decide +kernel
theorem dX12_init_204 : decode cX12_init 204 = .ok (.putfield 82, 3) := by decide +kernel
theorem dX12_init_207 : decode cX12_init 207 = .ok (.aload_n 0, 1) := by decide +kernel
theorem dX12_init_208 : decode cX12_init 208 = .ok (.bipush 12, 2) := by decide +kernel
theorem dX12_init_210 : decode cX12_init 210 = .ok (.newarray .int, 2) := by decide +kernel
theorem dX12_init_212 : decode cX12_init 212 = .ok (.putfield 85, 3) := by decide +kernel
theorem dX12_init_215 : decode cX12_init 215 = .ok (.aload_n 0, 1) := by decide +kernel
theorem dX12_init_216 : decode cX12_init 216 = .ok (.sipush 288, 3) := by decide +kernel
theorem dX12_init_219 : decode cX12_init 219 = .ok (.newarray .byte, 2) := by decide +kernel
theorem dX12_init_221 : decode cX12_init 221 = .ok (.putfield 88, 3) := by decide +kernel
theorem dX12_init_224 : decode cX12_init 224 = .ok (.aload_n 0, 1) := by decide +kernel
theorem dX12_init_225 : decode cX12_init 225 = .ok (.bipush 12, 2) := by decide +kernel
theorem dX12_init_227 : decode cX12_init 227 = .ok (.newarray .int, 2) := by decide +kernel
theorem dX12_init_229 : decode cX12_init 229 = .ok (.putfield 91, 3) := by decide +kernel
theorem dX12_init_232 : decode cX12_init 232 = .ok (.aload_n 0, 1) := by decide +kernel
theorem dX12_init_233 : decode cX12_init 233 = .ok (.sipush 288, 3) := by decide +kernel
theorem dX12_init_236 : decode cX12_init 236 = .ok (.newarray .byte, 2) := by decide +kernel
theorem dX12_init_238 : decode cX12_init 238 = .ok (.putfield 94, 3) := by decide +kernel
theorem dX12_init_241 : decode cX12_init 241 = .ok (.aload_n 0, 1) := by decide +kernel
theorem dX12_init_242 : decode cX12_init 242 = .ok (.bipush 12, 2) := by decide +kernel
theorem dX12_init_244 : decode cX12_init 244 = .ok (.newarray .int, 2) := by decide +kernel
theorem dX12_init_246 : decode cX12_init 246 = .ok (.putfield 97, 3) := by decide +kernel
theorem dX12_init_249 : decode cX12_init 249 = .ok (.aload_n 0, 1) := by decide +kernel
theorem dX12_init_250 : decode cX12_init 250 = .ok (.sipush 720, 3) := by decide +kernel
theorem dX12_init_253 : decode cX12_init 253 = .ok (.newarray .int, 2) := by decide +kernel
theorem dX12_init_255 : decode cX12_init 255 = .ok (.putfield 100, 3) := by decide +kernel
theorem dX12_init_258 : decode cX12_init 258 = .ok (.aload_n 0, 1) := by decide +kernel
theorem dX12_init_259 : decode cX12_init 259 = .ok (.bipush 30, 2) := by decide +kernel
theorem dX12_init_261 : decode cX12_init 261 = .ok (.newarray .int, 2) := by decide +kernel
theorem dX12_init_263 : decode cX12_init 263 = .ok (.putfield 103, 3) := by decide +kernel
theorem dX12_init_266 : decode cX12_init 266 = .ok (.aload_n 0, 1) := by decide +kernel
theorem dX12_init_267 : decode cX12_init 267 = .ok (.sipush 2400, 3) := by decide +kernel
theorem dX12_init_270 : decode cX12_init 270 = .ok (.newarray .byte, 2) := by decide +kernel
theorem dX12_init_272 : decode cX12_init 272 = .ok (.putfield 106, 3) := by decide +kernel
theorem dX12_init_275 : decode cX12_init 275 = .ok (.aload_n 0, 1) := by decide +kernel
theorem dX12_init_276 : decode cX12_init 276 = .ok (.bipush 100, 2) := by decide +kernel
theorem dX12_init_278 : decode cX12_init 278 = .ok (.newarray .int, 2) := by decide +kernel
theorem dX12_init_280 : decode cX12_init 280 = .ok (.putfield 109, 3) := by decide +kernel
theorem dX12_init_283 : decode cX12_init 283 = .ok (.aload_n 0, 1) := by decide +kernel
theorem dX12_init_284 : decode cX12_init 284 = .ok (.ldc 112, 2) := by decide +kernel
theorem dX12_init_286 : decode cX12_init 286 = .ok (.newarray .byte, 2) := by decide +kernel
theorem dX12_init_288 : decode cX12_init 288 = .ok (.putfield 113, 3) := by decide +kernel
theorem dX12_init_291 : decode cX12_init 291 = .ok (.aload_n 0, 1) := by decide +kernel
theorem dX12_init_292 : decode cX12_init 292 = .ok (.sipush 8400, 3) := by decide +kernel
theorem dX12_init_295 : decode cX12_init 295 = .ok (.newarray .int, 2) := by decide +kernel
theorem dX12_init_297 : decode cX12_init 297 = .ok (.putfield 116, 3) := by decide +kernel
theorem dX12_init_300 : decode cX12_init 300 = .ok (.aload_n 0, 1) := by decide +kernel
theorem dX12_init_301 : decode cX12_init 301 = .ok (.sipush 700, 3) := by decide +kernel
theorem dX12_init_304 : decode cX12_init 304 = .ok (.newarray .int, 2) := by decide +kernel
theorem dX12_init_306 : decode cX12_init 306 = .ok (.putfield 119, 3) := by decide +kernel
theorem dX12_init_309 : decode cX12_init 309 = .ok (.aload_n 0, 1) := by decide +kernel
theorem dX12_init_310 : decode cX12_init 310 = .ok (.bipush 100, 2) := by decide +kernel
theorem dX12_init_312 : decode cX12_init 312 = .ok (.newarray .int, 2) := by decide +kernel
theorem dX12_init_314 : decode cX12_init 314 = .ok (.putfield 122, 3) := by decide +kernel
theorem dX12_init_317 : decode cX12_init 317 = .ok (.aload_n 0, 1) := by decide +kernel
theorem dX12_init_318 : decode cX12_init 318 = .ok (.bipush 24, 2) := by decide +kernel
theorem dX12_init_320 : decode cX12_init 320 = .ok (.newarray .byte, 2) := by decide +kernel
theorem dX12_init_322 : decode cX12_init 322 = .ok (.putfield 125, 3) := by decide +kernel
theorem dX12_init_325 : decode cX12_init 325 = .ok (.aload_n 0, 1) := by decide +kernel
theorem dX12_init_326 : decode cX12_init 326 = .ok (.sipush 200, 3) := by decide +kernel
theorem dX12_init_329 : decode cX12_init 329 = .ok (.newarray .int, 2) := by decide +kernel
theorem dX12_init_331 : decode cX12_init 331 = .ok (.putfield 128, 3) := by decide +kernel
theorem dX12_init_334 : decode cX12_init 334 = .ok (.aload_n 0, 1) := by decide +kernel
theorem dX12_init_335 : decode cX12_init 335 = .ok (.sipush 2500, 3) := by decide +kernel
theorem dX12_init_338 : decode cX12_init 338 = .ok (.newarray .byte, 2) := by decide +kernel
theorem dX12_init_340 : decode cX12_init 340 = .ok (.putfield 131, 3) := by decide +kernel
theorem dX12_init_343 : decode cX12_init 343 = .ok (.aload_n 0, 1) := by decide +kernel
theorem dX12_init_344 : decode cX12_init 344 = .ok (.sipush 2500, 3) := by decide +kernel
theorem dX12_init_347 : decode cX12_init 347 = .ok (.newarray .byte, 2) := by decide +kernel
theorem dX12_init_349 : decode cX12_init 349 = .ok (.putfield 134, 3) := by decide +kernel
theorem dX12_init_352 : decode cX12_init 352 = .ok (.aload_n 0, 1) := by decide +kernel
theorem dX12_init_353 : decode cX12_init 353 = .ok (.iconst 5, 1) := by decide +kernel
theorem dX12_init_354 : decode cX12_init 354 = .ok (.newarray .int, 2) := by decide +kernel
theorem dX12_init_356 : decode cX12_init 356 = .ok (.putfield 137, 3) := by decide +kernel
theorem dX12_init_359 : decode cX12_init 359 = .ok (.aload_n 0, 1) := by decide +kernel
theorem dX12_init_360 : decode cX12_init 360 = .ok (.iconst 5, 1) := by decide +kernel
theorem dX12_init_361 : decode cX12_init 361 = .ok (.newarray .int, 2) := by decide +kernel
theorem dX12_init_363 : decode cX12_init 363 = .ok (.putfield 140, 3) := by decide +kernel
theorem dX12_init_366 : decode cX12_init 366 = .ok (.aload_n 0, 1) := by decide +kernel
theorem dX12_init_367 : decode cX12_init 367 = .ok (.sipush 280, 3) := by decide +kernel
theorem dX12_init_370 : decode cX12_init 370 = .ok (.newarray .int, 2) := by decide +kernel
theorem dX12_init_372 : decode cX12_init 372 = .ok (.putfield 143, 3) := by decide +kernel
theorem dX12_init_375 : decode cX12_init 375 = .ok (.aload_n 0, 1) := by decide +kernel
theorem dX12_init_376 : decode cX12_init 376 = .ok (.sipush 287, 3) := by decide +kernel
theorem dX12_init_379 : decode cX12_init 379 = .ok (.newarray .int, 2) := by decide +kernel
theorem dX12_init_381 : decode cX12_init 381 = .ok (.putfield 146, 3) := by decide +kernel
theorem dX12_init_384 : decode cX12_init 384 = .ok (.aload_n 0, 1) := by decide +kernel
theorem dX12_init_385 : decode cX12_init 385 = .ok (.bipush 40, 2) := by decide +kernel
theorem dX12_init_387 : decode cX12_init 387 = .ok (.newarray .int, 2) := by decide +kernel
theorem dX12_init_389 : decode cX12_init 389 = .ok (.putfield 149, 3) := by decide +kernel
theorem dX12_init_392 : decode cX12_init 392 = .ok (.return_, 1) := by decide +kernel
theorem dX12_in_0 : decode cX12_in 0 = .ok (.iload_n 0, 1) := by decide +kernel
theorem dX12_in_1 : decode cX12_in 1 = .ok (.iload_n 1, 1) := by decide +kernel
theorem dX12_in_2 : decode cX12_in 2 = .ok (.if_icmp .lt 12, 3) := by decide +kernel
theorem dX12_in_5 : decode cX12_in 5 = .ok (.iload_n 0, 1) := by decide +kernel
theorem dX12_in_6 : decode cX12_in 6 = .ok (.iload_n 2, 1) := by decide +kernel
theorem dX12_in_7 : decode cX12_in 7 = .ok (.if_icmp .gt 7, 3) := by decide +kernel
theorem dX12_in_10 : decode cX12_in 10 = .ok (.iconst 1, 1) := by decide +kernel
theorem dX12_in_11 : decode cX12_in 11 = .ok (.goto 4, 3) := by decide +kernel
theorem dX12_in_14 : decode cX12_in 14 = .ok (.iconst 0, 1) := by decide +kernel
theorem dX12_in_15 : decode cX12_in 15 = .ok (.ireturn, 1) := by decide +kernel
theorem dX12_feed_0 : decode cX12_feed 0 = .ok (.aload_n 0, 1) := by decide +kernel
theorem dX12_feed_1 : decode cX12_feed 1 = .ok (.getfield 152, 3) := by decide +kernel
theorem dX12_feed_4 : decode cX12_feed 4 = .ok (.bipush 20, 2) := by decide +kernel
theorem dX12_feed_6 : decode cX12_feed 6 = .ok (.iadd, 1) := by decide +kernel
theorem dX12_feed_7 : decode cX12_feed 7 = .ok (.sipush 2000, 3) := by decide +kernel
theorem dX12_feed_10 : decode cX12_feed 10 = .ok (.if_icmp .le 6, 3) := by decide +kernel
theorem dX12_feed_16 : decode cX12_feed 16 = .ok (.iconst 0, 1) := by decide +kernel
theorem dX12_feed_17 : decode cX12_feed 17 = .ok (.istore 6, 2) := by decide +kernel
theorem dX12_feed_19 : decode cX12_feed 19 = .ok (.iload 6, 2) := by decide +kernel
theorem dX12_feed_21 : decode cX12_feed 21 = .ok (.iconst 5, 1) := by decide +kernel
theorem dX12_feed_22 : decode cX12_feed 22 = .ok (.if_icmp .ge 93, 3) := by decide +kernel
theorem dX12_feed_25 : decode cX12_feed 25 = .ok (.iload 6, 2) := by decide +kernel
theorem dX12_feed_27 : decode cX12_feed 27 = .ok (.ifCond .ne 7, 3) := by decide +kernel
theorem dX12_feed_30 : decode cX12_feed 30 = .ok (.iload_n 1, 1) := by decide +kernel
theorem dX12_feed_31 : decode cX12_feed 31 = .ok (.goto 36, 3) := by decide +kernel
theorem dX12_feed_34 : decode cX12_feed 34 = .ok (.iload 6, 2) := by decide +kernel
theorem dX12_feed_36 : decode cX12_feed 36 = .ok (.iconst 1, 1) := by decide +kernel
theorem dX12_feed_37 : decode cX12_feed 37 = .ok (.if_icmp .ne 7, 3) := by decide +kernel
theorem dX12_feed_40 : decode cX12_feed 40 = .ok (.iload_n 2, 1) := by decide +kernel
theorem dX12_feed_41 : decode cX12_feed 41 = .ok (.goto 26, 3) := by decide +kernel
theorem dX12_feed_44 : decode cX12_feed 44 = .ok (.iload 6, 2) := by decide +kernel
theorem dX12_feed_46 : decode cX12_feed 46 = .ok (.iconst 2, 1) := by decide +kernel
theorem dX12_feed_47 : decode cX12_feed 47 = .ok (.if_icmp .ne 7, 3) := by decide +kernel
theorem dX12_feed_50 : decode cX12_feed 50 = .ok (.iload_n 3, 1) := by decide +kernel
theorem dX12_feed_51 : decode cX12_feed 51 = .ok (.goto 16, 3) := by decide +kernel
theorem dX12_feed_54 : decode cX12_feed 54 = .ok (.iload 6, 2) := by decide +kernel
theorem dX12_feed_56 : decode cX12_feed 56 = .ok (.iconst 3, 1) := by decide +kernel
theorem dX12_feed_57 : decode cX12_feed 57 = .ok (.if_icmp .ne 8, 3) := by decide +kernel
theorem dX12_feed_60 : decode cX12_feed 60 = .ok (.iload 4, 2) := by decide +kernel
theorem dX12_feed_62 : decode cX12_feed 62 = .ok (.goto 5, 3) := by decide +kernel
theorem dX12_feed_65 : decode cX12_feed 65 = .ok (.iload 5, 2) := by decide +kernel
theorem dX12_feed_67 : decode cX12_feed 67 = .ok (.istore 7, 2) := by decide +kernel
theorem dX12_feed_69 : decode cX12_feed 69 = .ok (.bipush 24, 2) := by decide +kernel
theorem dX12_feed_71 : decode cX12_feed 71 = .ok (.istore 8, 2) := by decide +kernel
theorem dX12_feed_73 : decode cX12_feed 73 = .ok (.iload 8, 2) := by decide +kernel
theorem dX12_feed_75 : decode cX12_feed 75 = .ok (.ifCond .lt 34, 3) := by decide +kernel
theorem dX12_feed_78 : decode cX12_feed 78 = .ok (.aload_n 0, 1) := by decide +kernel
theorem dX12_feed_79 : decode cX12_feed 79 = .ok (.getfield 7, 3) := by decide +kernel
theorem dX12_feed_82 : decode cX12_feed 82 = .ok (.aload_n 0, 1) := by decide +kernel
theorem dX12_feed_83 : decode cX12_feed 83 = .ok (.getfield 152, 3) := by decide +kernel
theorem dX12_feed_86 : decode cX12_feed 86 = .ok (.iload 7, 2) := by decide +kernel
theorem dX12_feed_88 : decode cX12_feed 88 = .ok (.iload 8, 2) := by decide +kernel
theorem dX12_feed_90 : decode cX12_feed 90 = .ok (.ishr, 1) := by decide +kernel
theorem dX12_feed_91 : decode cX12_feed 91 = .ok (.i2b, 1) := by decide +kernel
theorem dX12_feed_92 : decode cX12_feed 92 = .ok (.bastore, 1) := by decide +kernel
theorem dX12_feed_93 : decode cX12_feed 93 = .ok (.aload_n 0, 1) := by decide +kernel
theorem dX12_feed_94 : decode cX12_feed 94 = .ok (.dup, 1) := by decide +kernel
theorem dX12_feed_95 : decode cX12_feed 95 = .ok (.getfield 152, 3) := by decide +kernel
theorem dX12_feed_98 : decode cX12_feed 98 = .ok (.iconst 1, 1) := by decide +kernel
theorem dX12_feed_99 : decode cX12_feed 99 = .ok (.iadd, 1) := by decide +kernel
theorem dX12_feed_100 : decode cX12_feed 100 = .ok (.putfield 152, 3) := by decide +kernel
theorem dX12_feed_103 : decode cX12_feed 103 = .ok (.iinc 8 (-8), 3) := by decide +kernel
theorem dX12_feed_106 : decode cX12_feed 106 = .ok (.goto (-33), 3) := by decide +kernel
theorem dX12_feed_109 : decode cX12_feed 109 = .ok (.iinc 6 1, 3) := by decide +kernel
theorem dX12_feed_112 : decode cX12_feed 112 = .ok (.goto (-93), 3) := by decide +kernel
theorem dX12_feed_115 : decode cX12_feed 115 = .ok (.aload_n 0, 1) := by decide +kernel
theorem dX12_feed_116 : decode cX12_feed 116 = .ok (.getfield 152, 3) := by decide +kernel
theorem dX12_feed_119 : decode cX12_feed 119 = .ok (.ireturn, 1) := by decide +kernel
theorem dX12_end_0 : decode cX12_end 0 = .ok (.iload_n 1, 1) := by decide +kernel
theorem dX12_end_1 : decode cX12_end 1 = .ok (.ifCond .lt 11, 3) := by decide +kernel
theorem dX12_end_4 : decode cX12_end 4 = .ok (.iload_n 1, 1) := by decide +kernel
theorem dX12_end_5 : decode cX12_end 5 = .ok (.aload_n 0, 1) := by decide +kernel
theorem dX12_end_6 : decode cX12_end 6 = .ok (.getfield 152, 3) := by decide +kernel
theorem dX12_end_9 : decode cX12_end 9 = .ok (.if_icmp .le 5, 3) := by decide +kernel
theorem dX12_end_12 : decode cX12_end 12 = .ok (.iconst (-1), 1) := by decide +kernel
theorem dX12_end_13 : decode cX12_end 13 = .ok (.ireturn, 1) := by decide +kernel
theorem dX12_end_14 : decode cX12_end 14 = .ok (.aload_n 0, 1) := by decide +kernel
theorem dX12_end_15 : decode cX12_end 15 = .ok (.iload_n 1, 1) := by decide +kernel
theorem dX12_end_16 : decode cX12_end 16 = .ok (.putfield 152, 3) := by decide +kernel
theorem dX12_end_19 : decode cX12_end 19 = .ok (.iload_n 1, 1) := by decide +kernel
theorem dX12_end_20 : decode cX12_end 20 = .ok (.ireturn, 1) := by decide +kernel
theorem dX12_see_0 : decode cX12_see 0 = .ok (.iload_n 1, 1) := by decide +kernel
theorem dX12_see_1 : decode cX12_see 1 = .ok (.aload_n 0, 1) := by decide +kernel
theorem dX12_see_2 : decode cX12_see 2 = .ok (.getfield 155, 3) := by decide +kernel
theorem dX12_see_5 : decode cX12_see 5 = .ok (.if_icmp .ge 16, 3) := by decide +kernel
theorem dX12_see_21 : decode cX12_see 21 = .ok (.iconst (-1), 1) := by decide +kernel
theorem dX12_see_22 : decode cX12_see 22 = .ok (.ireturn, 1) := by decide +kernel
set_option maxRecDepth 20000 in
theorem ggX12_scan_X12_see : GoodIn wsX12_scan wsX12_see := goodIn_r _ [9, 10, 11, 68, 69, 70, 71, 72, 73, 74, 75, 76, 77, 78, 79, 80, 81, 82, 83, 84, 85, 86, 87, 88, 89, 90, 91, 92, 93, 94, 95, 96, 97, 98, 99, 100, 101, 102, 103, 104, 105, 106, 107, 108, 109, 110, 111, 112, 113, 114, 115, 116, 117, 118, 119, 120, 121, 122, 123, 124, 125, 126, 127, 128, 129, 130, 131, 132, 133, 134, 135, 136, 137, 138] (by decide +kernel) (by decide +kernel)
set_option maxRecDepth 20000 in
theorem gX12_scan_X12_see : GoodIn wsX12_scan (wsV RX12 170 RX12 yX12_see wsX12_see) := goodIn_app (goodIn_of _ (by decide +kernel)) ggX12_scan_X12_see
theorem dX12_scan_0 : decode cX12_scan 0 = .ok (.aload_n 0, 1) := by decide +kernel
theorem dX12_scan_1 : decode cX12_scan 1 = .ok (.getfield 174, 3) := by decide +kernel
theorem dX12_scan_4 : decode cX12_scan 4 = .ok (.istore_n 1, 1) := by decide +kernel
theorem dX12_scan_5 : decode cX12_scan 5 = .ok (.aload_n 0, 1) := by decide +kernel
theorem dX12_scan_6 : decode cX12_scan 6 = .ok (.iload_n 1, 1) := by decide +kernel
theorem dX12_scan_7 : decode cX12_scan 7 = .ok (.invokevirtual 170, 3) := by decide +kernel
theorem dX12_scan_10 : decode cX12_scan 10 = .ok (.bipush 32, 2) := by decide +kernel
theorem dX12_scan_12 : decode cX12_scan 12 = .ok (.if_icmp .eq 13, 3) := by decide +kernel
theorem dX12_scan_15 : decode cX12_scan 15 = .ok (.aload_n 0, 1) := by decide +kernel
theorem dX12_scan_16 : decode cX12_scan 16 = .ok (.iload_n 1, 1) := by decide +kernel
theorem dX12_scan_17 : decode cX12_scan 17 = .ok (.invokevirtual 170, 3) := by decide +kernel
theorem dX12_scan_20 : decode cX12_scan 20 = .ok (.bipush 10, 2) := by decide +kernel
theorem dX12_scan_22 : decode cX12_scan 22 = .ok (.if_icmp .ne 9, 3) := by decide +kernel
theorem dX12_scan_31 : decode cX12_scan 31 = .ok (.aload_n 0, 1) := by decide +kernel
theorem dX12_scan_32 : decode cX12_scan 32 = .ok (.iload_n 1, 1) := by decide +kernel
theorem dX12_scan_33 : decode cX12_scan 33 = .ok (.putfield 177, 3) := by decide +kernel
theorem dX12_scan_36 : decode cX12_scan 36 = .ok (.aload_n 0, 1) := by decide +kernel
theorem dX12_scan_37 : decode cX12_scan 37 = .ok (.iload_n 1, 1) := by decide +kernel
theorem dX12_scan_38 : decode cX12_scan 38 = .ok (.invokevirtual 170, 3) := by decide +kernel
theorem dX12_scan_41 : decode cX12_scan 41 = .ok (.istore_n 2, 1) := by decide +kernel
theorem dX12_scan_42 : decode cX12_scan 42 = .ok (.iload_n 1, 1) := by decide +kernel
theorem dX12_scan_43 : decode cX12_scan 43 = .ok (.iconst 1, 1) := by decide +kernel
theorem dX12_scan_44 : decode cX12_scan 44 = .ok (.iadd, 1) := by decide +kernel
theorem dX12_scan_45 : decode cX12_scan 45 = .ok (.istore_n 3, 1) := by decide +kernel
theorem dX12_scan_46 : decode cX12_scan 46 = .ok (.iload_n 2, 1) := by decide +kernel
theorem dX12_scan_47 : decode cX12_scan 47 = .ok (.iconst (-1), 1) := by decide +kernel
theorem dX12_scan_48 : decode cX12_scan 48 = .ok (.if_icmp .ne 13, 3) := by decide +kernel
theorem dX12_scan_51 : decode cX12_scan 51 = .ok (.aload_n 0, 1) := by decide +kernel
theorem dX12_scan_52 : decode cX12_scan 52 = .ok (.iconst 4, 1) := by decide +kernel
theorem dX12_scan_53 : decode cX12_scan 53 = .ok (.putfield 180, 3) := by decide +kernel
theorem dX12_scan_56 : decode cX12_scan 56 = .ok (.iload_n 1, 1) := by decide +kernel
theorem dX12_scan_57 : decode cX12_scan 57 = .ok (.istore_n 3, 1) := by decide +kernel
theorem dX12_scan_58 : decode cX12_scan 58 = .ok (.goto 132, 3) := by decide +kernel
theorem dX12_scan_190 : decode cX12_scan 190 = .ok (.aload_n 0, 1) := by decide +kernel
theorem dX12_scan_191 : decode cX12_scan 191 = .ok (.iload_n 3, 1) := by decide +kernel
theorem dX12_scan_192 : decode cX12_scan 192 = .ok (.putfield 174, 3) := by decide +kernel
theorem dX12_scan_195 : decode cX12_scan 195 = .ok (.return_, 1) := by decide +kernel
set_option maxRecDepth 20000 in
theorem ggX12_reform_X12_in : GoodIn wsX12_reform wsX12_in := goodIn_r _ [25] (by decide +kernel) (by decide +kernel)
set_option maxRecDepth 20000 in
theorem gX12_reform_X12_in : GoodIn wsX12_reform (va_wsS RX12 226 yX12_in wsX12_in) := goodIn_app (goodIn_of _ (by decide +kernel)) ggX12_reform_X12_in
set_option maxRecDepth 20000 in
theorem ggX12_reform_X12_scan : GoodIn wsX12_reform wsX12_scan := goodIn_r _ [29, 11, 30, 12, 31, 32, 33, 34, 24, 35, 2, 36, 37, 38, 39, 40, 41, 42, 43, 44, 45, 46, 47, 48, 49, 50, 51, 52, 53, 54, 55, 56, 57, 58, 59, 60, 61, 62, 63, 64, 65, 66, 67, 68, 69, 70, 71, 72, 73, 74, 75, 76, 77, 78, 79, 80, 81, 82, 83, 84, 85, 86, 87, 88, 89, 90, 91, 92, 123, 124, 125, 126, 127, 128, 129, 130, 131, 132, 133, 134, 135, 136, 137, 138, 139, 140, 141, 142, 143, 144, 145, 146, 147, 148, 149, 150, 151, 152, 153, 154, 155, 156, 157, 158, 159, 160, 161, 162, 163, 164, 165, 166, 167, 168, 169, 170, 171, 172, 173, 174, 175, 176, 177, 178, 179, 180, 181, 182, 183, 184, 185, 186, 187, 188, 189, 190, 191, 192, 193] (by decide +kernel) (by decide +kernel)
set_option maxRecDepth 20000 in
theorem gX12_reform_X12_scan : GoodIn wsX12_reform (wsV RX12 200 RX12 yX12_scan wsX12_scan) := goodIn_app (goodIn_of _ (by decide +kernel)) ggX12_reform_X12_scan
theorem dX12_reform_0 : decode cX12_reform 0 = .ok (.aload_n 0, 1) := by decide +kernel
theorem dX12_reform_1 : decode cX12_reform 1 = .ok (.aload_n 0, 1) := by decide +kernel
theorem dX12_reform_2 : decode cX12_reform 2 = .ok (.getfield 152, 3) := by decide +kernel
theorem dX12_reform_5 : decode cX12_reform 5 = .ok (.putfield 155, 3) := by decide +kernel
theorem dX12_reform_8 : decode cX12_reform 8 = .ok (.aload_n 0, 1) := by decide +kernel
theorem dX12_reform_9 : decode cX12_reform 9 = .ok (.iconst 0, 1) := by decide +kernel
theorem dX12_reform_10 : decode cX12_reform 10 = .ok (.putfield 152, 3) := by decide +kernel
theorem dX12_reform_13 : decode cX12_reform 13 = .ok (.iload_n 1, 1) := by decide +kernel
theorem dX12_reform_14 : decode cX12_reform 14 = .ok (.aload_n 0, 1) := by decide +kernel
theorem dX12_reform_15 : decode cX12_reform 15 = .ok (.getfield 222, 3) := by decide +kernel
theorem dX12_reform_18 : decode cX12_reform 18 = .ok (.ifCond .ne 7, 3) := by decide +kernel
theorem dX12_reform_21 : decode cX12_reform 21 = .ok (.iconst 0, 1) := by decide +kernel
theorem dX12_reform_22 : decode cX12_reform 22 = .ok (.goto 16, 3) := by decide +kernel
theorem dX12_reform_38 : decode cX12_reform 38 = .ok (.ldc 225, 2) := by decide +kernel
theorem dX12_reform_40 : decode cX12_reform 40 = .ok (.invokestatic 226, 3) := by decide +kernel
theorem dX12_reform_43 : decode cX12_reform 43 = .ok (.ifCond .ne 6, 3) := by decide +kernel
theorem dX12_reform_46 : decode cX12_reform 46 = .ok (.bipush (-2), 2) := by decide +kernel
theorem dX12_reform_48 : decode cX12_reform 48 = .ok (.ireturn, 1) := by decide +kernel
theorem dX12_reform_49 : decode cX12_reform 49 = .ok (.aload_n 0, 1) := by decide +kernel
theorem dX12_reform_50 : decode cX12_reform 50 = .ok (.iconst 0, 1) := by decide +kernel
theorem dX12_reform_51 : decode cX12_reform 51 = .ok (.putfield 194, 3) := by decide +kernel
theorem dX12_reform_54 : decode cX12_reform 54 = .ok (.aload_n 0, 1) := by decide +kernel
theorem dX12_reform_55 : decode cX12_reform 55 = .ok (.iconst (-1), 1) := by decide +kernel
theorem dX12_reform_56 : decode cX12_reform 56 = .ok (.putfield 13, 3) := by decide +kernel
theorem dX12_reform_59 : decode cX12_reform 59 = .ok (.aload_n 0, 1) := by decide +kernel
theorem dX12_reform_60 : decode cX12_reform 60 = .ok (.getfield 21, 3) := by decide +kernel
theorem dX12_reform_63 : decode cX12_reform 63 = .ok (.bipush 6, 2) := by decide +kernel
theorem dX12_reform_65 : decode cX12_reform 65 = .ok (.iconst 0, 1) := by decide +kernel
theorem dX12_reform_66 : decode cX12_reform 66 = .ok (.iastore, 1) := by decide +kernel
theorem dX12_reform_67 : decode cX12_reform 67 = .ok (.aload_n 0, 1) := by decide +kernel
theorem dX12_reform_68 : decode cX12_reform 68 = .ok (.getfield 24, 3) := by decide +kernel
end
section
theorem dX12_reform_71 : decode cX12_reform 71 = .ok (.bipush 6, 2) := by decide +kernel
theorem dX12_reform_73 : decode cX12_reform 73 = .ok (.iconst 0, 1) := by decide +kernel
theorem dX12_reform_74 : decode cX12_reform 74 = .ok (.iastore, 1) := by decide +kernel
theorem dX12_reform_75 : decode cX12_reform 75 = .ok (.aload_n 0, 1) := by decide +kernel
theorem dX12_reform_76 : decode cX12_reform 76 = .ok (.getfield 27, 3) := by decide +kernel
theorem dX12_reform_79 : decode cX12_reform 79 = .ok (.bipush 6, 2) := by decide +kernel
theorem dX12_reform_81 : decode cX12_reform 81 = .ok (.iconst 0, 1) := by decide +kernel
theorem dX12_reform_82 : decode cX12_reform 82 = .ok (.iastore, 1) := by decide +kernel
theorem dX12_reform_83 : decode cX12_reform 83 = .ok (.aload_n 0, 1) := by decide +kernel
theorem dX12_reform_84 : decode cX12_reform 84 = .ok (.iconst 0, 1) := by decide +kernel
theorem dX12_reform_85 : decode cX12_reform 85 = .ok (.putfield 174, 3) := by decide +kernel
theorem dX12_reform_88 : decode cX12_reform 88 = .ok (.aload_n 0, 1) := by decide +kernel
theorem dX12_reform_89 : decode cX12_reform 89 = .ok (.invokevirtual 200, 3) := by decide +kernel
theorem dX12_reform_92 : decode cX12_reform 92 = .ok (.aload_n 0, 1) := by decide +kernel
theorem dX12_reform_93 : decode cX12_reform 93 = .ok (.getfield 180, 3) := by decide +kernel
theorem dX12_reform_96 : decode cX12_reform 96 = .ok (.iconst 4, 1) := by decide +kernel
theorem dX12_reform_97 : decode cX12_reform 97 = .ok (.if_icmp .eq 12, 3) := by decide +kernel
theorem dX12_reform_109 : decode cX12_reform 109 = .ok (.aload_n 0, 1) := by decide +kernel
theorem dX12_reform_110 : decode cX12_reform 110 = .ok (.getfield 222, 3) := by decide +kernel
theorem dX12_reform_113 : decode cX12_reform 113 = .ok (.bipush 6, 2) := by decide +kernel
theorem dX12_reform_115 : decode cX12_reform 115 = .ok (.if_icmp .ne 6, 3) := by decide +kernel
theorem dX12_reform_121 : decode cX12_reform 121 = .ok (.aload_n 0, 1) := by decide +kernel
theorem dX12_reform_122 : decode cX12_reform 122 = .ok (.getfield 222, 3) := by decide +kernel
theorem dX12_reform_125 : decode cX12_reform 125 = .ok (.istore_n 2, 1) := by decide +kernel
theorem dX12_reform_126 : decode cX12_reform 126 = .ok (.aload_n 0, 1) := by decide +kernel
theorem dX12_reform_127 : decode cX12_reform 127 = .ok (.getfield 17, 3) := by decide +kernel
theorem dX12_reform_130 : decode cX12_reform 130 = .ok (.iload_n 2, 1) := by decide +kernel
theorem dX12_reform_131 : decode cX12_reform 131 = .ok (.iload_n 1, 1) := by decide +kernel
theorem dX12_reform_132 : decode cX12_reform 132 = .ok (.iastore, 1) := by decide +kernel
theorem dX12_reform_133 : decode cX12_reform 133 = .ok (.aload_n 0, 1) := by decide +kernel
theorem dX12_reform_134 : decode cX12_reform 134 = .ok (.getfield 21, 3) := by decide +kernel
theorem dX12_reform_137 : decode cX12_reform 137 = .ok (.iload_n 2, 1) := by decide +kernel
theorem dX12_reform_138 : decode cX12_reform 138 = .ok (.aload_n 0, 1) := by decide +kernel
theorem dX12_reform_139 : decode cX12_reform 139 = .ok (.getfield 21, 3) := by decide +kernel
theorem dX12_reform_142 : decode cX12_reform 142 = .ok (.bipush 6, 2) := by decide +kernel
theorem dX12_reform_144 : decode cX12_reform 144 = .ok (.iaload, 1) := by decide +kernel
theorem dX12_reform_145 : decode cX12_reform 145 = .ok (.iastore, 1) := by decide +kernel
theorem dX12_reform_146 : decode cX12_reform 146 = .ok (.aload_n 0, 1) := by decide +kernel
theorem dX12_reform_147 : decode cX12_reform 147 = .ok (.getfield 24, 3) := by decide +kernel
theorem dX12_reform_150 : decode cX12_reform 150 = .ok (.iload_n 2, 1) := by decide +kernel
theorem dX12_reform_151 : decode cX12_reform 151 = .ok (.aload_n 0, 1) := by decide +kernel
theorem dX12_reform_152 : decode cX12_reform 152 = .ok (.getfield 24, 3) := by decide +kernel
theorem dX12_reform_155 : decode cX12_reform 155 = .ok (.bipush 6, 2) := by decide +kernel
theorem dX12_reform_157 : decode cX12_reform 157 = .ok (.iaload, 1) := by decide +kernel
theorem dX12_reform_158 : decode cX12_reform 158 = .ok (.iastore, 1) := by decide +kernel
theorem dX12_reform_159 : decode cX12_reform 159 = .ok (.aload_n 0, 1) := by decide +kernel
theorem dX12_reform_160 : decode cX12_reform 160 = .ok (.getfield 27, 3) := by decide +kernel
theorem dX12_reform_163 : decode cX12_reform 163 = .ok (.iload_n 2, 1) := by decide +kernel
theorem dX12_reform_164 : decode cX12_reform 164 = .ok (.aload_n 0, 1) := by decide +kernel
theorem dX12_reform_165 : decode cX12_reform 165 = .ok (.getfield 27, 3) := by decide +kernel
theorem dX12_reform_168 : decode cX12_reform 168 = .ok (.bipush 6, 2) := by decide +kernel
theorem dX12_reform_170 : decode cX12_reform 170 = .ok (.iaload, 1) := by decide +kernel
theorem dX12_reform_171 : decode cX12_reform 171 = .ok (.iastore, 1) := by decide +kernel
theorem dX12_reform_172 : decode cX12_reform 172 = .ok (.iconst 0, 1) := by decide +kernel
theorem dX12_reform_173 : decode cX12_reform 173 = .ok (.istore_n 3, 1) := by decide +kernel
theorem dX12_reform_174 : decode cX12_reform 174 = .ok (.iload_n 3, 1) := by decide +kernel
theorem dX12_reform_175 : decode cX12_reform 175 = .ok (.iconst 4, 1) := by decide +kernel
theorem dX12_reform_176 : decode cX12_reform 176 = .ok (.aload_n 0, 1) := by decide +kernel
theorem dX12_reform_177 : decode cX12_reform 177 = .ok (.getfield 21, 3) := by decide +kernel
theorem dX12_reform_180 : decode cX12_reform 180 = .ok (.iload_n 2, 1) := by decide +kernel
theorem dX12_reform_181 : decode cX12_reform 181 = .ok (.iaload, 1) := by decide +kernel
theorem dX12_reform_182 : decode cX12_reform 182 = .ok (.imul, 1) := by decide +kernel
theorem dX12_reform_183 : decode cX12_reform 183 = .ok (.if_icmp .ge 32, 3) := by decide +kernel
theorem dX12_reform_215 : decode cX12_reform 215 = .ok (.iconst 0, 1) := by decide +kernel
theorem dX12_reform_216 : decode cX12_reform 216 = .ok (.istore_n 3, 1) := by decide +kernel
theorem dX12_reform_217 : decode cX12_reform 217 = .ok (.iload_n 3, 1) := by decide +kernel
theorem dX12_reform_218 : decode cX12_reform 218 = .ok (.aload_n 0, 1) := by decide +kernel
theorem dX12_reform_219 : decode cX12_reform 219 = .ok (.getfield 21, 3) := by decide +kernel
theorem dX12_reform_222 : decode cX12_reform 222 = .ok (.iload_n 2, 1) := by decide +kernel
theorem dX12_reform_223 : decode cX12_reform 223 = .ok (.iaload, 1) := by decide +kernel
theorem dX12_reform_224 : decode cX12_reform 224 = .ok (.if_icmp .ge 51, 3) := by decide +kernel
theorem dX12_reform_275 : decode cX12_reform 275 = .ok (.iconst 0, 1) := by decide +kernel
theorem dX12_reform_276 : decode cX12_reform 276 = .ok (.istore_n 3, 1) := by decide +kernel
theorem dX12_reform_277 : decode cX12_reform 277 = .ok (.iload_n 3, 1) := by decide +kernel
theorem dX12_reform_278 : decode cX12_reform 278 = .ok (.aload_n 0, 1) := by decide +kernel
theorem dX12_reform_279 : decode cX12_reform 279 = .ok (.getfield 24, 3) := by decide +kernel
theorem dX12_reform_282 : decode cX12_reform 282 = .ok (.iload_n 2, 1) := by decide +kernel
theorem dX12_reform_283 : decode cX12_reform 283 = .ok (.iaload, 1) := by decide +kernel
theorem dX12_reform_284 : decode cX12_reform 284 = .ok (.if_icmp .ge 31, 3) := by decide +kernel
theorem dX12_reform_315 : decode cX12_reform 315 = .ok (.iconst 0, 1) := by decide +kernel
theorem dX12_reform_316 : decode cX12_reform 316 = .ok (.istore_n 3, 1) := by decide +kernel
theorem dX12_reform_317 : decode cX12_reform 317 = .ok (.iload_n 3, 1) := by decide +kernel
theorem dX12_reform_318 : decode cX12_reform 318 = .ok (.iconst 2, 1) := by decide +kernel
theorem dX12_reform_319 : decode cX12_reform 319 = .ok (.aload_n 0, 1) := by decide +kernel
theorem dX12_reform_320 : decode cX12_reform 320 = .ok (.getfield 27, 3) := by decide +kernel
theorem dX12_reform_323 : decode cX12_reform 323 = .ok (.iload_n 2, 1) := by decide +kernel
theorem dX12_reform_324 : decode cX12_reform 324 = .ok (.iaload, 1) := by decide +kernel
theorem dX12_reform_325 : decode cX12_reform 325 = .ok (.imul, 1) := by decide +kernel
theorem dX12_reform_326 : decode cX12_reform 326 = .ok (.if_icmp .ge 31, 3) := by decide +kernel
theorem dX12_reform_357 : decode cX12_reform 357 = .ok (.aload_n 0, 1) := by decide +kernel
theorem dX12_reform_358 : decode cX12_reform 358 = .ok (.dup, 1) := by decide +kernel
theorem dX12_reform_359 : decode cX12_reform 359 = .ok (.getfield 222, 3) := by decide +kernel
theorem dX12_reform_362 : decode cX12_reform 362 = .ok (.iconst 1, 1) := by decide +kernel
theorem dX12_reform_363 : decode cX12_reform 363 = .ok (.iadd, 1) := by decide +kernel
theorem dX12_reform_364 : decode cX12_reform 364 = .ok (.putfield 222, 3) := by decide +kernel
theorem dX12_reform_367 : decode cX12_reform 367 = .ok (.aload_n 0, 1) := by decide +kernel
theorem dX12_reform_368 : decode cX12_reform 368 = .ok (.iconst 0, 1) := by decide +kernel
theorem dX12_reform_369 : decode cX12_reform 369 = .ok (.putfield 237, 3) := by decide +kernel
theorem dX12_reform_372 : decode cX12_reform 372 = .ok (.iload_n 2, 1) := by decide +kernel
theorem dX12_reform_373 : decode cX12_reform 373 = .ok (.ireturn, 1) := by decide +kernel
theorem dX12_fault_0 : decode cX12_fault 0 = .ok (.iload_n 1, 1) := by decide +kernel
theorem dX12_fault_1 : decode cX12_fault 1 = .ok (.ifCond .ne 10, 3) := by decide +kernel
theorem dX12_fault_4 : decode cX12_fault 4 = .ok (.aload_n 0, 1) := by decide +kernel
theorem dX12_fault_5 : decode cX12_fault 5 = .ok (.getfield 194, 3) := by decide +kernel
theorem dX12_fault_8 : decode cX12_fault 8 = .ok (.goto 16, 3) := by decide +kernel
theorem dX12_fault_11 : decode cX12_fault 11 = .ok (.iload_n 1, 1) := by decide +kernel
theorem dX12_fault_12 : decode cX12_fault 12 = .ok (.iconst 1, 1) := by decide +kernel
theorem dX12_fault_13 : decode cX12_fault 13 = .ok (.if_icmp .ne 10, 3) := by decide +kernel
theorem dX12_fault_16 : decode cX12_fault 16 = .ok (.aload_n 0, 1) := by decide +kernel
theorem dX12_fault_17 : decode cX12_fault 17 = .ok (.getfield 13, 3) := by decide +kernel
theorem dX12_fault_20 : decode cX12_fault 20 = .ok (.goto 4, 3) := by decide +kernel
theorem dX12_fault_23 : decode cX12_fault 23 = .ok (.iconst (-1), 1) := by decide +kernel
theorem dX12_fault_24 : decode cX12_fault 24 = .ok (.ireturn, 1) := by decide +kernel
set_option maxRecDepth 20000 in
theorem ggX12_about_X12_in : GoodIn wsX12_about wsX12_in := goodIn_r _ [10] (by decide +kernel) (by decide +kernel)
set_option maxRecDepth 20000 in
theorem gX12_about_X12_in : GoodIn wsX12_about (va_wsS RX12 226 yX12_in wsX12_in) := goodIn_app (goodIn_of _ (by decide +kernel)) ggX12_about_X12_in
theorem dX12_about_0 : decode cX12_about 0 = .ok (.iload_n 1, 1) := by decide +kernel
theorem dX12_about_1 : decode cX12_about 1 = .ok (.iconst 0, 1) := by decide +kernel
theorem dX12_about_2 : decode cX12_about 2 = .ok (.aload_n 0, 1) := by decide +kernel
theorem dX12_about_3 : decode cX12_about 3 = .ok (.getfield 222, 3) := by decide +kernel
theorem dX12_about_6 : decode cX12_about 6 = .ok (.iconst 1, 1) := by decide +kernel
theorem dX12_about_7 : decode cX12_about 7 = .ok (.isub, 1) := by decide +kernel
theorem dX12_about_8 : decode cX12_about 8 = .ok (.invokestatic 226, 3) := by decide +kernel
theorem dX12_about_11 : decode cX12_about 11 = .ok (.ifCond .ne 5, 3) := by decide +kernel
theorem dX12_about_14 : decode cX12_about 14 = .ok (.iconst (-1), 1) := by decide +kernel
theorem dX12_about_15 : decode cX12_about 15 = .ok (.ireturn, 1) := by decide +kernel
set_option maxRecDepth 20000 in
theorem ggX12_stage_X12_in : GoodIn wsX12_stage wsX12_in := goodIn_r _ [7] (by decide +kernel) (by decide +kernel)
set_option maxRecDepth 20000 in
theorem gX12_stage_X12_in : GoodIn wsX12_stage (va_wsS RX12 226 yX12_in wsX12_in) := goodIn_app (goodIn_of _ (by decide +kernel)) ggX12_stage_X12_in
theorem dX12_stage_0 : decode cX12_stage 0 = .ok (.iload_n 1, 1) := by decide +kernel
theorem dX12_stage_1 : decode cX12_stage 1 = .ok (.iconst 0, 1) := by decide +kernel
theorem dX12_stage_2 : decode cX12_stage 2 = .ok (.ldc 225, 2) := by decide +kernel
theorem dX12_stage_4 : decode cX12_stage 4 = .ok (.invokestatic 226, 3) := by decide +kernel
theorem dX12_stage_7 : decode cX12_stage 7 = .ok (.ifCond .ne 6, 3) := by decide +kernel
theorem dX12_stage_10 : decode cX12_stage 10 = .ok (.bipush (-2), 2) := by decide +kernel
theorem dX12_stage_12 : decode cX12_stage 12 = .ok (.ireturn, 1) := by decide +kernel
theorem dX12_stage_13 : decode cX12_stage 13 = .ok (.iconst 0, 1) := by decide +kernel
theorem dX12_stage_14 : decode cX12_stage 14 = .ok (.istore_n 2, 1) := by decide +kernel
theorem dX12_stage_15 : decode cX12_stage 15 = .ok (.iconst 0, 1) := by decide +kernel
theorem dX12_stage_16 : decode cX12_stage 16 = .ok (.istore_n 3, 1) := by decide +kernel
theorem dX12_stage_17 : decode cX12_stage 17 = .ok (.iload_n 3, 1) := by decide +kernel
theorem dX12_stage_18 : decode cX12_stage 18 = .ok (.aload_n 0, 1) := by decide +kernel
theorem dX12_stage_19 : decode cX12_stage 19 = .ok (.getfield 222, 3) := by decide +kernel
theorem dX12_stage_22 : decode cX12_stage 22 = .ok (.if_icmp .ge 27, 3) := by decide +kernel
theorem dX12_stage_49 : decode cX12_stage 49 = .ok (.iload_n 2, 1) := by decide +kernel
theorem dX12_stage_50 : decode cX12_stage 50 = .ok (.ireturn, 1) := by decide +kernel
set_option maxRecDepth 20000 in
theorem ggX12_readWord_X12_in : GoodIn wsX12_readWord wsX12_in := goodIn_r _ [6] (by decide +kernel) (by decide +kernel)
set_option maxRecDepth 20000 in
theorem gX12_readWord_X12_in : GoodIn wsX12_readWord (va_wsS RX12 226 yX12_in wsX12_in) := goodIn_app (goodIn_of _ (by decide +kernel)) ggX12_readWord_X12_in
theorem dX12_readWord_0 : decode cX12_readWord 0 = .ok (.aload_n 0, 1) := by decide +kernel
theorem dX12_readWord_1 : decode cX12_readWord 1 = .ok (.getfield 152, 3) := by decide +kernel
theorem dX12_readWord_4 : decode cX12_readWord 4 = .ok (.istore_n 1, 1) := by decide +kernel
theorem dX12_readWord_5 : decode cX12_readWord 5 = .ok (.aload_n 0, 1) := by decide +kernel
theorem dX12_readWord_6 : decode cX12_readWord 6 = .ok (.iconst 0, 1) := by decide +kernel
theorem dX12_readWord_7 : decode cX12_readWord 7 = .ok (.putfield 152, 3) := by decide +kernel
theorem dX12_readWord_10 : decode cX12_readWord 10 = .ok (.iload_n 1, 1) := by decide +kernel
theorem dX12_readWord_11 : decode cX12_readWord 11 = .ok (.iconst 1, 1) := by decide +kernel
theorem dX12_readWord_12 : decode cX12_readWord 12 = .ok (.bipush 24, 2) := by decide +kernel
theorem dX12_readWord_14 : decode cX12_readWord 14 = .ok (.invokestatic 226, 3) := by decide +kernel
theorem dX12_readWord_17 : decode cX12_readWord 17 = .ok (.ifCond .ne 5, 3) := by decide +kernel
theorem dX12_readWord_20 : decode cX12_readWord 20 = .ok (.iconst 0, 1) := by decide +kernel
theorem dX12_readWord_21 : decode cX12_readWord 21 = .ok (.ireturn, 1) := by decide +kernel
set_option maxRecDepth 20000 in
theorem ggX12_isStage_X12_in : GoodIn wsX12_isStage wsX12_in := goodIn_r _ [5] (by decide +kernel) (by decide +kernel)
set_option maxRecDepth 20000 in
theorem gX12_isStage_X12_in : GoodIn wsX12_isStage (va_wsS RX12 226 yX12_in wsX12_in) := goodIn_app (goodIn_of _ (by decide +kernel)) ggX12_isStage_X12_in
theorem dX12_isStage_0 : decode cX12_isStage 0 = .ok (.iload_n 1, 1) := by decide +kernel
theorem dX12_isStage_1 : decode cX12_isStage 1 = .ok (.iconst 0, 1) := by decide +kernel
theorem dX12_isStage_2 : decode cX12_isStage 2 = .ok (.aload_n 0, 1) := by decide +kernel
theorem dX12_isStage_3 : decode cX12_isStage 3 = .ok (.getfield 222, 3) := by decide +kernel
theorem dX12_isStage_6 : decode cX12_isStage 6 = .ok (.invokestatic 226, 3) := by decide +kernel
theorem dX12_isStage_9 : decode cX12_isStage 9 = .ok (.ireturn, 1) := by decide +kernel
set_option maxRecDepth 20000 in
theorem ggX12_turn_X12_readWord : GoodIn wsX12_turn wsX12_readWord := goodIn_r _ [11, 12, 13, 14, 15, 10, 16, 17, 18, 19, 20, 21, 22, 23, 24, 25, 96, 97, 98, 99, 100, 101, 102, 103, 104, 105, 106, 107, 108, 109, 110, 111, 112, 113, 114, 115, 116, 117, 118, 119, 120, 121, 122, 123, 124, 125, 126, 127, 128, 129, 130, 131, 132, 133, 134, 135, 136, 137, 138, 139, 140, 141, 142, 143, 144, 145, 146, 147, 148, 149, 150, 151, 152, 153, 154, 155, 156, 157, 158, 159, 160, 161, 162, 163, 164, 165, 166] (by decide +kernel) (by decide +kernel)
set_option maxRecDepth 20000 in
theorem gX12_turn_X12_readWord : GoodIn wsX12_turn (wsV RX12 297 RX12 yX12_readWord wsX12_readWord) := goodIn_app (goodIn_of _ (by decide +kernel)) ggX12_turn_X12_readWord
theorem dX12_turn_0 : decode cX12_turn 0 = .ok (.aload_n 0, 1) := by decide +kernel
theorem dX12_turn_1 : decode cX12_turn 1 = .ok (.invokevirtual 297, 3) := by decide +kernel
theorem dX12_turn_4 : decode cX12_turn 4 = .ok (.ifCond .eq 24, 3) := by decide +kernel
theorem dX12_turn_28 : decode cX12_turn 28 = .ok (.bipush (-2), 2) := by decide +kernel
theorem dX12_turn_30 : decode cX12_turn 30 = .ok (.ireturn, 1) := by decide +kernel
set_option maxRecDepth 20000 in
theorem ggX12_form_X12_in : GoodIn wsX12_form wsX12_in := goodIn_r _ [7] (by decide +kernel) (by decide +kernel)
set_option maxRecDepth 20000 in
theorem gX12_form_X12_in : GoodIn wsX12_form (va_wsS RX12 226 yX12_in wsX12_in) := goodIn_app (goodIn_of _ (by decide +kernel)) ggX12_form_X12_in
theorem dX12_form_0 : decode cX12_form 0 = .ok (.iload_n 1, 1) := by decide +kernel
theorem dX12_form_1 : decode cX12_form 1 = .ok (.iconst 0, 1) := by decide +kernel
theorem dX12_form_2 : decode cX12_form 2 = .ok (.aload_n 0, 1) := by decide +kernel
theorem dX12_form_3 : decode cX12_form 3 = .ok (.getfield 306, 3) := by decide +kernel
theorem dX12_form_6 : decode cX12_form 6 = .ok (.iconst 1, 1) := by decide +kernel
theorem dX12_form_7 : decode cX12_form 7 = .ok (.isub, 1) := by decide +kernel
theorem dX12_form_8 : decode cX12_form 8 = .ok (.invokestatic 226, 3) := by decide +kernel
theorem dX12_form_11 : decode cX12_form 11 = .ok (.ifCond .eq 33, 3) := by decide +kernel
theorem dX12_form_44 : decode cX12_form 44 = .ok (.iconst (-1), 1) := by decide +kernel
theorem dX12_form_45 : decode cX12_form 45 = .ok (.ireturn, 1) := by decide +kernel
set_option maxRecDepth 20000 in
theorem ggX12_partings_X12_readWord : GoodIn wsX12_partings wsX12_readWord := goodIn_r _ [13, 14, 15, 16, 17, 12, 18, 19, 20, 21, 22, 23, 24, 25, 26, 27, 54, 55, 56, 57, 58, 59, 60, 61, 62, 63, 64, 65, 66, 67, 68, 69, 70, 71, 72, 73, 74, 75, 76, 77, 78, 79, 80, 81, 82, 83, 84, 85, 86, 87, 88, 89, 90, 91, 92, 93, 94, 95, 96, 97, 98, 99, 100, 101, 102, 103, 104, 105, 106, 107, 108, 109, 110, 111, 112, 113, 114, 115, 116, 117, 118, 119, 120, 121, 122, 123, 124] (by decide +kernel) (by decide +kernel)
set_option maxRecDepth 20000 in
theorem gX12_partings_X12_readWord : GoodIn wsX12_partings (wsV RX12 297 RX12 yX12_readWord wsX12_readWord) := goodIn_app (goodIn_of _ (by decide +kernel)) ggX12_partings_X12_readWord
theorem dX12_partings_0 : decode cX12_partings 0 = .ok (.aload_n 0, 1) := by decide +kernel
theorem dX12_partings_1 : decode cX12_partings 1 = .ok (.invokevirtual 297, 3) := by decide +kernel
theorem dX12_partings_4 : decode cX12_partings 4 = .ok (.ifCond .eq 17, 3) := by decide +kernel
theorem dX12_partings_21 : decode cX12_partings 21 = .ok (.bipush (-2), 2) := by decide +kernel
theorem dX12_partings_23 : decode cX12_partings 23 = .ok (.ireturn, 1) := by decide +kernel
set_option maxRecDepth 20000 in
theorem ggX12_parting_X12_in : GoodIn wsX12_parting wsX12_in := goodIn_r _ [7] (by decide +kernel) (by decide +kernel)
set_option maxRecDepth 20000 in
theorem gX12_parting_X12_in : GoodIn wsX12_parting (va_wsS RX12 226 yX12_in wsX12_in) := goodIn_app (goodIn_of _ (by decide +kernel)) ggX12_parting_X12_in
theorem dX12_parting_0 : decode cX12_parting 0 = .ok (.iload_n 1, 1) := by decide +kernel
theorem dX12_parting_1 : decode cX12_parting 1 = .ok (.iconst 0, 1) := by decide +kernel
theorem dX12_parting_2 : decode cX12_parting 2 = .ok (.aload_n 0, 1) := by decide +kernel
theorem dX12_parting_3 : decode cX12_parting 3 = .ok (.getfield 309, 3) := by decide +kernel
theorem dX12_parting_6 : decode cX12_parting 6 = .ok (.iconst 1, 1) := by decide +kernel
theorem dX12_parting_7 : decode cX12_parting 7 = .ok (.isub, 1) := by decide +kernel
theorem dX12_parting_8 : decode cX12_parting 8 = .ok (.invokestatic 226, 3) := by decide +kernel
theorem dX12_parting_11 : decode cX12_parting 11 = .ok (.ifCond .ne 5, 3) := by decide +kernel
theorem dX12_parting_14 : decode cX12_parting 14 = .ok (.iconst (-1), 1) := by decide +kernel
theorem dX12_parting_15 : decode cX12_parting 15 = .ok (.ireturn, 1) := by decide +kernel
set_option maxRecDepth 20000 in
theorem ggX12_learn_X12_readWord : GoodIn wsX12_learn wsX12_readWord := goodIn_r _ [11, 12, 13, 14, 15, 10, 16, 17, 18, 19, 20, 21, 22, 23, 4, 5, 27, 28, 29, 30, 31, 32, 33, 34, 35, 36, 37, 38, 39, 40, 41, 42, 43, 44, 45, 46, 47, 48, 49, 50, 51, 52, 53, 54, 55, 56, 57, 58, 59, 60, 61, 62, 63, 64, 65, 66, 67, 68, 69, 70, 71, 72, 73, 74, 75, 76, 77, 78, 79, 80, 81, 82, 83, 84, 85, 86, 87, 88, 89, 90, 91, 92, 93, 94, 95, 96, 97] (by decide +kernel) (by decide +kernel)
set_option maxRecDepth 20000 in
theorem gX12_learn_X12_readWord : GoodIn wsX12_learn (wsV RX12 297 RX12 yX12_readWord wsX12_readWord) := goodIn_app (goodIn_of _ (by decide +kernel)) ggX12_learn_X12_readWord
theorem dX12_learn_0 : decode cX12_learn 0 = .ok (.aload_n 0, 1) := by decide +kernel
theorem dX12_learn_1 : decode cX12_learn 1 = .ok (.invokevirtual 297, 3) := by decide +kernel
theorem dX12_learn_4 : decode cX12_learn 4 = .ok (.ifCond .ne 6, 3) := by decide +kernel
theorem dX12_learn_7 : decode cX12_learn 7 = .ok (.bipush (-2), 2) := by decide +kernel
theorem dX12_learn_9 : decode cX12_learn 9 = .ok (.ireturn, 1) := by decide +kernel
set_option maxRecDepth 20000 in
theorem ggX12_word_X12_in : GoodIn wsX12_word wsX12_in := goodIn_r _ [7] (by decide +kernel) (by decide +kernel)
set_option maxRecDepth 20000 in
theorem gX12_word_X12_in : GoodIn wsX12_word (va_wsS RX12 226 yX12_in wsX12_in) := goodIn_app (goodIn_of _ (by decide +kernel)) ggX12_word_X12_in
theorem dX12_word_0 : decode cX12_word 0 = .ok (.iload_n 1, 1) := by decide +kernel
theorem dX12_word_1 : decode cX12_word 1 = .ok (.iconst 0, 1) := by decide +kernel
theorem dX12_word_2 : decode cX12_word 2 = .ok (.aload_n 0, 1) := by decide +kernel
theorem dX12_word_3 : decode cX12_word 3 = .ok (.getfield 312, 3) := by decide +kernel
theorem dX12_word_6 : decode cX12_word 6 = .ok (.iconst 1, 1) := by decide +kernel
theorem dX12_word_7 : decode cX12_word 7 = .ok (.isub, 1) := by decide +kernel
theorem dX12_word_8 : decode cX12_word 8 = .ok (.invokestatic 226, 3) := by decide +kernel
theorem dX12_word_11 : decode cX12_word 11 = .ok (.ifCond .eq 33, 3) := by decide +kernel
theorem dX12_word_44 : decode cX12_word 44 = .ok (.iconst (-1), 1) := by decide +kernel
theorem dX12_word_45 : decode cX12_word 45 = .ok (.ireturn, 1) := by decide +kernel
theorem dX12_make_0 : decode cX12_make 0 = .ok (.aload_n 0, 1) := by decide +kernel
theorem dX12_make_1 : decode cX12_make 1 = .ok (.getfield 237, 3) := by decide +kernel
theorem dX12_make_4 : decode cX12_make 4 = .ok (.ifCond .eq 4, 3) := by decide +kernel
theorem dX12_make_8 : decode cX12_make 8 = .ok (.aload_n 0, 1) := by decide +kernel
theorem dX12_make_9 : decode cX12_make 9 = .ok (.iconst 1, 1) := by decide +kernel
theorem dX12_make_10 : decode cX12_make 10 = .ok (.putfield 237, 3) := by decide +kernel
theorem dX12_make_13 : decode cX12_make 13 = .ok (.iconst 0, 1) := by decide +kernel
theorem dX12_make_14 : decode cX12_make 14 = .ok (.istore_n 1, 1) := by decide +kernel
theorem dX12_make_15 : decode cX12_make 15 = .ok (.iload_n 1, 1) := by decide +kernel
theorem dX12_make_16 : decode cX12_make 16 = .ok (.aload_n 0, 1) := by decide +kernel
theorem dX12_make_17 : decode cX12_make 17 = .ok (.getfield 312, 3) := by decide +kernel
theorem dX12_make_20 : decode cX12_make 20 = .ok (.if_icmp .ge 155, 3) := by decide +kernel
theorem dX12_make_175 : decode cX12_make 175 = .ok (.return_, 1) := by decide +kernel
set_option maxRecDepth 20000 in
theorem ggX12_back_X12_readWord : GoodIn wsX12_back wsX12_readWord := goodIn_r _ [11, 12, 13, 14, 15, 10, 16, 17, 18, 19, 20, 21, 22, 23, 3, 1, 111, 112, 113, 114, 115, 116, 117, 118, 119, 120, 121, 122, 123, 124, 125, 126, 127, 128, 129, 130, 131, 132, 133, 134, 135, 136, 137, 138, 139, 140, 141, 142, 143, 144, 145, 146, 147, 148, 149, 150, 151, 152, 153, 154, 155, 156, 157, 158, 159, 160, 161, 162, 163, 164, 165, 166, 167, 168, 169, 170, 171, 172, 173, 174, 175, 176, 177, 178, 179, 180, 181] (by decide +kernel) (by decide +kernel)
set_option maxRecDepth 20000 in
theorem gX12_back_X12_readWord : GoodIn wsX12_back (wsV RX12 297 RX12 yX12_readWord wsX12_readWord) := goodIn_app (goodIn_of _ (by decide +kernel)) ggX12_back_X12_readWord
theorem dX12_back_0 : decode cX12_back 0 = .ok (.aload_n 0, 1) := by decide +kernel
theorem dX12_back_1 : decode cX12_back 1 = .ok (.invokevirtual 297, 3) := by decide +kernel
theorem dX12_back_4 : decode cX12_back 4 = .ok (.ifCond .eq 11, 3) := by decide +kernel
theorem dX12_back_15 : decode cX12_back 15 = .ok (.bipush (-2), 2) := by decide +kernel
theorem dX12_back_17 : decode cX12_back 17 = .ok (.ireturn, 1) := by decide +kernel
set_option maxRecDepth 20000 in
theorem ggX12_old_X12_in : GoodIn wsX12_old wsX12_in := goodIn_r _ [6] (by decide +kernel) (by decide +kernel)
set_option maxRecDepth 20000 in
theorem gX12_old_X12_in : GoodIn wsX12_old (va_wsS RX12 226 yX12_in wsX12_in) := goodIn_app (goodIn_of _ (by decide +kernel)) ggX12_old_X12_in
theorem dX12_old_0 : decode cX12_old 0 = .ok (.iload_n 1, 1) := by decide +kernel
theorem dX12_old_1 : decode cX12_old 1 = .ok (.iconst 0, 1) := by decide +kernel
theorem dX12_old_2 : decode cX12_old 2 = .ok (.aload_n 0, 1) := by decide +kernel
theorem dX12_old_3 : decode cX12_old 3 = .ok (.getfield 318, 3) := by decide +kernel
theorem dX12_old_6 : decode cX12_old 6 = .ok (.iconst 1, 1) := by decide +kernel
theorem dX12_old_7 : decode cX12_old 7 = .ok (.isub, 1) := by decide +kernel
theorem dX12_old_8 : decode cX12_old 8 = .ok (.invokestatic 226, 3) := by decide +kernel
theorem dX12_old_11 : decode cX12_old 11 = .ok (.ifCond .eq 12, 3) := by decide +kernel
theorem dX12_old_23 : decode cX12_old 23 = .ok (.iconst (-1), 1) := by decide +kernel
theorem dX12_old_24 : decode cX12_old 24 = .ok (.ireturn, 1) := by decide +kernel
set_option maxRecDepth 20000 in
theorem ggX12_collisions_X12_isStage : GoodIn wsX12_collisions wsX12_isStage := goodIn_r _ [8, 9, 10, 11, 7, 12, 105, 106, 107, 108, 109, 110, 111, 112, 113, 114, 115, 116, 117, 118, 119, 120, 121, 122, 123, 124, 125, 126, 127, 128, 129, 130, 131, 132, 133, 134, 135, 136, 137, 138, 139, 140, 141, 142, 143, 144, 145, 146, 147, 148, 149, 150, 151, 152, 153, 154, 155, 156, 157, 158, 159, 160, 161, 162, 163, 164, 165, 166, 167, 168, 169, 170, 171, 172, 173, 174, 175] (by decide +kernel) (by decide +kernel)
set_option maxRecDepth 20000 in
theorem gX12_collisions_X12_isStage : GoodIn wsX12_collisions (wsV RX12 300 RX12 yX12_isStage wsX12_isStage) := goodIn_app (goodIn_of _ (by decide +kernel)) ggX12_collisions_X12_isStage
set_option maxRecDepth 20000 in
theorem ggX12_collisions_X12_make : GoodIn wsX12_collisions wsX12_make := goodIn_r _ [16, 17, 2, 9, 18, 19, 20, 21, 22, 23, 24, 25, 26, 27, 28, 7, 29, 30, 31, 32, 33, 34, 35, 36, 37, 38, 39, 40, 41, 42, 43, 44, 45, 46, 47, 48, 49, 50, 51, 52, 53, 54, 55, 56, 57, 58, 59, 60, 61, 62, 63, 64, 65, 66, 67, 68, 69, 70, 71, 72, 73, 74, 75, 76, 77, 78, 79, 80, 81, 82, 83, 84, 85, 86, 87, 88, 89, 90, 91, 92, 93, 94, 95, 96, 105, 106, 107, 108, 109, 110, 111, 112, 113, 114, 115, 116, 117, 118, 119, 120, 121, 122, 123, 124, 125, 126, 127, 128, 129, 130, 131, 132, 133, 134, 135, 136, 137, 138, 139, 140, 141, 142, 143, 144, 145, 146, 147, 148, 149, 150, 151, 152, 153, 154, 155, 156, 157, 158, 159, 160, 161, 162, 163, 164, 165, 166, 167, 168, 169, 170, 171, 172, 173, 174, 175] (by decide +kernel) (by decide +kernel)
set_option maxRecDepth 20000 in
theorem gX12_collisions_X12_make : GoodIn wsX12_collisions (wsV RX12 315 RX12 yX12_make wsX12_make) := goodIn_app (goodIn_of _ (by decide +kernel)) ggX12_collisions_X12_make
theorem dX12_collisions_0 : decode cX12_collisions 0 = .ok (.aload_n 0, 1) := by decide +kernel
theorem dX12_collisions_1 : decode cX12_collisions 1 = .ok (.iload_n 1, 1) := by decide +kernel
theorem dX12_collisions_2 : decode cX12_collisions 2 = .ok (.invokevirtual 300, 3) := by decide +kernel
theorem dX12_collisions_5 : decode cX12_collisions 5 = .ok (.ifCond .ne 6, 3) := by decide +kernel
theorem dX12_collisions_8 : decode cX12_collisions 8 = .ok (.bipush (-2), 2) := by decide +kernel
theorem dX12_collisions_10 : decode cX12_collisions 10 = .ok (.ireturn, 1) := by decide +kernel
theorem dX12_collisions_11 : decode cX12_collisions 11 = .ok (.aload_n 0, 1) := by decide +kernel
theorem dX12_collisions_12 : decode cX12_collisions 12 = .ok (.invokevirtual 315, 3) := by decide +kernel
theorem dX12_collisions_15 : decode cX12_collisions 15 = .ok (.aload_n 0, 1) := by decide +kernel
theorem dX12_collisions_16 : decode cX12_collisions 16 = .ok (.iconst 0, 1) := by decide +kernel
theorem dX12_collisions_17 : decode cX12_collisions 17 = .ok (.putfield 325, 3) := by decide +kernel
theorem dX12_collisions_20 : decode cX12_collisions 20 = .ok (.iconst 0, 1) := by decide +kernel
theorem dX12_collisions_21 : decode cX12_collisions 21 = .ok (.istore_n 2, 1) := by decide +kernel
theorem dX12_collisions_22 : decode cX12_collisions 22 = .ok (.iconst 0, 1) := by decide +kernel
theorem dX12_collisions_23 : decode cX12_collisions 23 = .ok (.istore_n 3, 1) := by decide +kernel
theorem dX12_collisions_24 : decode cX12_collisions 24 = .ok (.iload_n 3, 1) := by decide +kernel
theorem dX12_collisions_25 : decode cX12_collisions 25 = .ok (.aload_n 0, 1) := by decide +kernel
theorem dX12_collisions_26 : decode cX12_collisions 26 = .ok (.getfield 312, 3) := by decide +kernel
theorem dX12_collisions_29 : decode cX12_collisions 29 = .ok (.if_icmp .ge 86, 3) := by decide +kernel
theorem dX12_collisions_115 : decode cX12_collisions 115 = .ok (.iload_n 2, 1) := by decide +kernel
theorem dX12_collisions_116 : decode cX12_collisions 116 = .ok (.ireturn, 1) := by decide +kernel
set_option maxRecDepth 20000 in
theorem ggX12_collision_X12_in : GoodIn wsX12_collision wsX12_in := goodIn_r _ [6] (by decide +kernel) (by decide +kernel)
set_option maxRecDepth 20000 in
theorem gX12_collision_X12_in : GoodIn wsX12_collision (va_wsS RX12 226 yX12_in wsX12_in) := goodIn_app (goodIn_of _ (by decide +kernel)) ggX12_collision_X12_in
theorem dX12_collision_0 : decode cX12_collision 0 = .ok (.iload_n 1, 1) := by decide +kernel
theorem dX12_collision_1 : decode cX12_collision 1 = .ok (.iconst 0, 1) := by decide +kernel
theorem dX12_collision_2 : decode cX12_collision 2 = .ok (.aload_n 0, 1) := by decide +kernel
theorem dX12_collision_3 : decode cX12_collision 3 = .ok (.getfield 325, 3) := by decide +kernel
theorem dX12_collision_6 : decode cX12_collision 6 = .ok (.iconst 1, 1) := by decide +kernel
theorem dX12_collision_7 : decode cX12_collision 7 = .ok (.isub, 1) := by decide +kernel
theorem dX12_collision_8 : decode cX12_collision 8 = .ok (.invokestatic 226, 3) := by decide +kernel
theorem dX12_collision_11 : decode cX12_collision 11 = .ok (.ifCond .eq 12, 3) := by decide +kernel
theorem dX12_collision_23 : decode cX12_collision 23 = .ok (.iconst (-1), 1) := by decide +kernel
theorem dX12_collision_24 : decode cX12_collision 24 = .ok (.ireturn, 1) := by decide +kernel
set_option maxRecDepth 20000 in
theorem ggX12_rhymes_X12_isStage : GoodIn wsX12_rhymes wsX12_isStage := goodIn_r _ [8, 9, 10, 11, 7, 12, 102, 103, 104, 105, 106, 107, 108, 109, 110, 111, 112, 113, 114, 115, 116, 117, 118, 119, 120, 121, 122, 123, 124, 125, 126, 127, 128, 129, 130, 131, 132, 133, 134, 135, 136, 137, 138, 139, 140, 141, 142, 143, 144, 145, 146, 147, 148, 149, 150, 151, 152, 153, 154, 155, 156, 157, 158, 159, 160, 161, 162, 163, 164, 165, 166, 167, 168, 169, 170, 171, 172] (by decide +kernel) (by decide +kernel)
set_option maxRecDepth 20000 in
theorem gX12_rhymes_X12_isStage : GoodIn wsX12_rhymes (wsV RX12 300 RX12 yX12_isStage wsX12_isStage) := goodIn_app (goodIn_of _ (by decide +kernel)) ggX12_rhymes_X12_isStage
set_option maxRecDepth 20000 in
theorem ggX12_rhymes_X12_make : GoodIn wsX12_rhymes wsX12_make := goodIn_r _ [16, 17, 1, 9, 2, 3, 18, 19, 20, 21, 22, 23, 24, 25, 26, 7, 27, 28, 29, 30, 31, 32, 33, 34, 35, 36, 37, 38, 39, 40, 41, 42, 43, 44, 45, 46, 47, 48, 49, 50, 51, 52, 53, 54, 55, 56, 57, 58, 59, 60, 61, 62, 63, 64, 65, 66, 67, 68, 69, 70, 71, 72, 73, 74, 75, 76, 77, 78, 79, 80, 81, 82, 83, 84, 85, 86, 87, 88, 89, 90, 91, 92, 93, 94, 102, 103, 104, 105, 106, 107, 108, 109, 110, 111, 112, 113, 114, 115, 116, 117, 118, 119, 120, 121, 122, 123, 124, 125, 126, 127, 128, 129, 130, 131, 132, 133, 134, 135, 136, 137, 138, 139, 140, 141, 142, 143, 144, 145, 146, 147, 148, 149, 150, 151, 152, 153, 154, 155, 156, 157, 158, 159, 160, 161, 162, 163, 164, 165, 166, 167, 168, 169, 170, 171, 172] (by decide +kernel) (by decide +kernel)
set_option maxRecDepth 20000 in
theorem gX12_rhymes_X12_make : GoodIn wsX12_rhymes (wsV RX12 315 RX12 yX12_make wsX12_make) := goodIn_app (goodIn_of _ (by decide +kernel)) ggX12_rhymes_X12_make
theorem dX12_rhymes_0 : decode cX12_rhymes 0 = .ok (.aload_n 0, 1) := by decide +kernel
theorem dX12_rhymes_1 : decode cX12_rhymes 1 = .ok (.iload_n 1, 1) := by decide +kernel
theorem dX12_rhymes_2 : decode cX12_rhymes 2 = .ok (.invokevirtual 300, 3) := by decide +kernel
end
section
theorem dX12_rhymes_5 : decode cX12_rhymes 5 = .ok (.ifCond .ne 6, 3) := by decide +kernel
theorem dX12_rhymes_8 : decode cX12_rhymes 8 = .ok (.bipush (-2), 2) := by decide +kernel
theorem dX12_rhymes_10 : decode cX12_rhymes 10 = .ok (.ireturn, 1) := by decide +kernel
theorem dX12_rhymes_11 : decode cX12_rhymes 11 = .ok (.aload_n 0, 1) := by decide +kernel
theorem dX12_rhymes_12 : decode cX12_rhymes 12 = .ok (.invokevirtual 315, 3) := by decide +kernel
theorem dX12_rhymes_15 : decode cX12_rhymes 15 = .ok (.iconst 0, 1) := by decide +kernel
theorem dX12_rhymes_16 : decode cX12_rhymes 16 = .ok (.istore_n 2, 1) := by decide +kernel
theorem dX12_rhymes_17 : decode cX12_rhymes 17 = .ok (.iconst 0, 1) := by decide +kernel
theorem dX12_rhymes_18 : decode cX12_rhymes 18 = .ok (.istore_n 3, 1) := by decide +kernel
theorem dX12_rhymes_19 : decode cX12_rhymes 19 = .ok (.iload_n 3, 1) := by decide +kernel
theorem dX12_rhymes_20 : decode cX12_rhymes 20 = .ok (.aload_n 0, 1) := by decide +kernel
theorem dX12_rhymes_21 : decode cX12_rhymes 21 = .ok (.getfield 312, 3) := by decide +kernel
theorem dX12_rhymes_24 : decode cX12_rhymes 24 = .ok (.if_icmp .ge 84, 3) := by decide +kernel
theorem dX12_rhymes_108 : decode cX12_rhymes 108 = .ok (.iload_n 2, 1) := by decide +kernel
theorem dX12_rhymes_109 : decode cX12_rhymes 109 = .ok (.ireturn, 1) := by decide +kernel
set_option maxRecDepth 20000 in
theorem ggX12_tell_X12_isStage : GoodIn wsX12_tell wsX12_isStage := goodIn_r _ [9, 10, 11, 12, 8, 13, 99, 100, 101, 102, 103, 104, 105, 106, 107, 108, 109, 110, 111, 112, 113, 114, 115, 116, 117, 118, 119, 120, 121, 122, 123, 124, 125, 126, 127, 128, 129, 130, 131, 132, 133, 134, 135, 136, 137, 138, 139, 140, 141, 142, 143, 144, 145, 146, 147, 148, 149, 150, 151, 152, 153, 154, 155, 156, 157, 158, 159, 160, 161, 162, 163, 164, 165, 166, 167, 168, 169] (by decide +kernel) (by decide +kernel)
set_option maxRecDepth 20000 in
theorem gX12_tell_X12_isStage : GoodIn wsX12_tell (wsV RX12 300 RX12 yX12_isStage wsX12_isStage) := goodIn_app (goodIn_of _ (by decide +kernel)) ggX12_tell_X12_isStage
set_option maxRecDepth 20000 in
theorem ggX12_tell_X12_in : GoodIn wsX12_tell wsX12_in := goodIn_r _ [13] (by decide +kernel) (by decide +kernel)
set_option maxRecDepth 20000 in
theorem gX12_tell_X12_in : GoodIn wsX12_tell (va_wsS RX12 226 yX12_in wsX12_in) := goodIn_app (goodIn_of _ (by decide +kernel)) ggX12_tell_X12_in
set_option maxRecDepth 20000 in
theorem ggX12_tell_X12_make : GoodIn wsX12_tell wsX12_make := goodIn_r _ [17, 18, 1, 10, 3, 4, 2, 19, 20, 21, 22, 23, 24, 25, 26, 8, 27, 28, 29, 30, 31, 32, 33, 34, 35, 36, 37, 38, 39, 40, 41, 42, 43, 44, 45, 46, 47, 48, 49, 50, 51, 52, 53, 54, 55, 56, 57, 58, 59, 60, 61, 62, 63, 64, 65, 66, 67, 68, 69, 70, 71, 72, 73, 74, 75, 76, 77, 78, 79, 80, 81, 82, 83, 84, 85, 86, 87, 88, 89, 90, 91, 92, 93, 94, 99, 100, 101, 102, 103, 104, 105, 106, 107, 108, 109, 110, 111, 112, 113, 114, 115, 116, 117, 118, 119, 120, 121, 122, 123, 124, 125, 126, 127, 128, 129, 130, 131, 132, 133, 134, 135, 136, 137, 138, 139, 140, 141, 142, 143, 144, 145, 146, 147, 148, 149, 150, 151, 152, 153, 154, 155, 156, 157, 158, 159, 160, 161, 162, 163, 164, 165, 166, 167, 168, 169] (by decide +kernel) (by decide +kernel)
set_option maxRecDepth 20000 in
theorem gX12_tell_X12_make : GoodIn wsX12_tell (wsV RX12 315 RX12 yX12_make wsX12_make) := goodIn_app (goodIn_of _ (by decide +kernel)) ggX12_tell_X12_make
theorem dX12_tell_0 : decode cX12_tell 0 = .ok (.aload_n 0, 1) := by decide +kernel
theorem dX12_tell_1 : decode cX12_tell 1 = .ok (.iload_n 1, 1) := by decide +kernel
theorem dX12_tell_2 : decode cX12_tell 2 = .ok (.invokevirtual 300, 3) := by decide +kernel
theorem dX12_tell_5 : decode cX12_tell 5 = .ok (.ifCond .eq 12, 3) := by decide +kernel
theorem dX12_tell_8 : decode cX12_tell 8 = .ok (.iload_n 2, 1) := by decide +kernel
theorem dX12_tell_9 : decode cX12_tell 9 = .ok (.iconst 0, 1) := by decide +kernel
theorem dX12_tell_10 : decode cX12_tell 10 = .ok (.iconst 2, 1) := by decide +kernel
theorem dX12_tell_11 : decode cX12_tell 11 = .ok (.invokestatic 226, 3) := by decide +kernel
theorem dX12_tell_14 : decode cX12_tell 14 = .ok (.ifCond .ne 6, 3) := by decide +kernel
theorem dX12_tell_17 : decode cX12_tell 17 = .ok (.bipush (-2), 2) := by decide +kernel
theorem dX12_tell_19 : decode cX12_tell 19 = .ok (.ireturn, 1) := by decide +kernel
theorem dX12_tell_20 : decode cX12_tell 20 = .ok (.aload_n 0, 1) := by decide +kernel
theorem dX12_tell_21 : decode cX12_tell 21 = .ok (.invokevirtual 315, 3) := by decide +kernel
theorem dX12_tell_24 : decode cX12_tell 24 = .ok (.iconst 0, 1) := by decide +kernel
theorem dX12_tell_25 : decode cX12_tell 25 = .ok (.istore_n 3, 1) := by decide +kernel
theorem dX12_tell_26 : decode cX12_tell 26 = .ok (.iconst 0, 1) := by decide +kernel
theorem dX12_tell_27 : decode cX12_tell 27 = .ok (.istore 4, 2) := by decide +kernel
theorem dX12_tell_29 : decode cX12_tell 29 = .ok (.iload 4, 2) := by decide +kernel
theorem dX12_tell_31 : decode cX12_tell 31 = .ok (.aload_n 0, 1) := by decide +kernel
theorem dX12_tell_32 : decode cX12_tell 32 = .ok (.getfield 312, 3) := by decide +kernel
theorem dX12_tell_35 : decode cX12_tell 35 = .ok (.if_icmp .ge 111, 3) := by decide +kernel
theorem dX12_tell_146 : decode cX12_tell 146 = .ok (.iload_n 3, 1) := by decide +kernel
theorem dX12_tell_147 : decode cX12_tell 147 = .ok (.ireturn, 1) := by decide +kernel
set_option maxRecDepth 20000 in
theorem ggX12_uses_X12_in : GoodIn wsX12_uses wsX12_in := goodIn_r _ [12] (by decide +kernel) (by decide +kernel)
set_option maxRecDepth 20000 in
theorem gX12_uses_X12_in : GoodIn wsX12_uses (va_wsS RX12 226 yX12_in wsX12_in) := goodIn_app (goodIn_of _ (by decide +kernel)) ggX12_uses_X12_in
theorem dX12_uses_0 : decode cX12_uses 0 = .ok (.iload_n 1, 1) := by decide +kernel
theorem dX12_uses_1 : decode cX12_uses 1 = .ok (.iconst 0, 1) := by decide +kernel
theorem dX12_uses_2 : decode cX12_uses 2 = .ok (.aload_n 0, 1) := by decide +kernel
theorem dX12_uses_3 : decode cX12_uses 3 = .ok (.getfield 222, 3) := by decide +kernel
theorem dX12_uses_6 : decode cX12_uses 6 = .ok (.iconst 1, 1) := by decide +kernel
theorem dX12_uses_7 : decode cX12_uses 7 = .ok (.isub, 1) := by decide +kernel
theorem dX12_uses_8 : decode cX12_uses 8 = .ok (.invokestatic 226, 3) := by decide +kernel
theorem dX12_uses_11 : decode cX12_uses 11 = .ok (.ifCond .eq 19, 3) := by decide +kernel
theorem dX12_uses_30 : decode cX12_uses 30 = .ok (.bipush (-2), 2) := by decide +kernel
theorem dX12_uses_32 : decode cX12_uses 32 = .ok (.ireturn, 1) := by decide +kernel
theorem dX12_hasNought_0 : decode cX12_hasNought 0 = .ok (.iconst 0, 1) := by decide +kernel
theorem dX12_hasNought_1 : decode cX12_hasNought 1 = .ok (.istore_n 2, 1) := by decide +kernel
theorem dX12_hasNought_2 : decode cX12_hasNought 2 = .ok (.iload_n 2, 1) := by decide +kernel
theorem dX12_hasNought_3 : decode cX12_hasNought 3 = .ok (.iload_n 1, 1) := by decide +kernel
theorem dX12_hasNought_4 : decode cX12_hasNought 4 = .ok (.if_icmp .ge 20, 3) := by decide +kernel
theorem dX12_hasNought_24 : decode cX12_hasNought 24 = .ok (.iconst 0, 1) := by decide +kernel
theorem dX12_hasNought_25 : decode cX12_hasNought 25 = .ok (.ireturn, 1) := by decide +kernel
set_option maxRecDepth 20000 in
theorem ggX12_write_X12_isStage : GoodIn wsX12_write wsX12_isStage := goodIn_r _ [14, 15, 16, 17, 13, 18, 119, 120, 121, 122, 123, 124, 125, 126, 127, 128, 129, 130, 131, 132, 133, 134, 135, 136, 137, 138, 139, 140, 141, 142, 143, 144, 145, 146, 147, 148, 149, 150, 151, 152, 153, 154, 155, 156, 157, 158, 159, 160, 161, 162, 163, 164, 165, 166, 167, 168, 169, 170, 171, 172, 173, 174, 175, 176, 177, 178, 179, 180, 181, 182, 183, 184, 185, 186, 187, 188, 189] (by decide +kernel) (by decide +kernel)
set_option maxRecDepth 20000 in
theorem gX12_write_X12_isStage : GoodIn wsX12_write (wsV RX12 300 RX12 yX12_isStage wsX12_isStage) := goodIn_app (goodIn_of _ (by decide +kernel)) ggX12_write_X12_isStage
set_option maxRecDepth 20000 in
theorem ggX12_write_X12_hasNought : GoodIn wsX12_write wsX12_hasNought := goodIn_r _ [22, 4, 119, 120, 121, 122, 123, 124, 125, 126, 127, 128, 129, 130, 131, 132, 133, 134, 135, 136, 137, 138, 139, 140, 141, 142, 143, 144, 145, 146, 147, 148, 149, 150, 151, 152, 153, 154, 155, 156, 157, 158, 159, 160, 161, 162, 163, 164, 165, 166, 167, 168, 169, 170, 171, 172, 173, 174, 175, 176, 177, 178, 179, 180, 181, 182, 183, 184, 185, 186, 187, 188, 189] (by decide +kernel) (by decide +kernel)
set_option maxRecDepth 20000 in
theorem gX12_write_X12_hasNought : GoodIn wsX12_write (wsV RX12 348 RX12 yX12_hasNought wsX12_hasNought) := goodIn_app (goodIn_of _ (by decide +kernel)) ggX12_write_X12_hasNought
theorem dX12_write_0 : decode cX12_write 0 = .ok (.aload_n 0, 1) := by decide +kernel
theorem dX12_write_1 : decode cX12_write 1 = .ok (.getfield 152, 3) := by decide +kernel
theorem dX12_write_4 : decode cX12_write 4 = .ok (.istore_n 3, 1) := by decide +kernel
theorem dX12_write_5 : decode cX12_write 5 = .ok (.aload_n 0, 1) := by decide +kernel
theorem dX12_write_6 : decode cX12_write 6 = .ok (.iconst 0, 1) := by decide +kernel
theorem dX12_write_7 : decode cX12_write 7 = .ok (.putfield 152, 3) := by decide +kernel
theorem dX12_write_10 : decode cX12_write 10 = .ok (.aload_n 0, 1) := by decide +kernel
theorem dX12_write_11 : decode cX12_write 11 = .ok (.iload_n 1, 1) := by decide +kernel
theorem dX12_write_12 : decode cX12_write 12 = .ok (.invokevirtual 300, 3) := by decide +kernel
theorem dX12_write_15 : decode cX12_write 15 = .ok (.ifCond .eq 16, 3) := by decide +kernel
theorem dX12_write_18 : decode cX12_write 18 = .ok (.aload_n 0, 1) := by decide +kernel
theorem dX12_write_19 : decode cX12_write 19 = .ok (.iload_n 2, 1) := by decide +kernel
theorem dX12_write_20 : decode cX12_write 20 = .ok (.invokevirtual 300, 3) := by decide +kernel
theorem dX12_write_23 : decode cX12_write 23 = .ok (.ifCond .eq 8, 3) := by decide +kernel
theorem dX12_write_26 : decode cX12_write 26 = .ok (.iload_n 1, 1) := by decide +kernel
theorem dX12_write_27 : decode cX12_write 27 = .ok (.iload_n 2, 1) := by decide +kernel
theorem dX12_write_28 : decode cX12_write 28 = .ok (.if_icmp .le 6, 3) := by decide +kernel
theorem dX12_write_31 : decode cX12_write 31 = .ok (.bipush (-2), 2) := by decide +kernel
theorem dX12_write_33 : decode cX12_write 33 = .ok (.ireturn, 1) := by decide +kernel
theorem dX12_write_34 : decode cX12_write 34 = .ok (.aload_n 0, 1) := by decide +kernel
theorem dX12_write_35 : decode cX12_write 35 = .ok (.iload_n 3, 1) := by decide +kernel
theorem dX12_write_36 : decode cX12_write 36 = .ok (.invokevirtual 348, 3) := by decide +kernel
theorem dX12_write_39 : decode cX12_write 39 = .ok (.ifCond .eq 5, 3) := by decide +kernel
theorem dX12_write_44 : decode cX12_write 44 = .ok (.aload_n 0, 1) := by decide +kernel
theorem dX12_write_45 : decode cX12_write 45 = .ok (.iconst 0, 1) := by decide +kernel
theorem dX12_write_46 : decode cX12_write 46 = .ok (.putfield 337, 3) := by decide +kernel
theorem dX12_write_49 : decode cX12_write 49 = .ok (.iconst 0, 1) := by decide +kernel
theorem dX12_write_50 : decode cX12_write 50 = .ok (.istore 4, 2) := by decide +kernel
theorem dX12_write_52 : decode cX12_write 52 = .ok (.iload 4, 2) := by decide +kernel
theorem dX12_write_54 : decode cX12_write 54 = .ok (.iconst 5, 1) := by decide +kernel
theorem dX12_write_55 : decode cX12_write 55 = .ok (.if_icmp .ge 17, 3) := by decide +kernel
theorem dX12_write_58 : decode cX12_write 58 = .ok (.aload_n 0, 1) := by decide +kernel
theorem dX12_write_59 : decode cX12_write 59 = .ok (.getfield 140, 3) := by decide +kernel
theorem dX12_write_62 : decode cX12_write 62 = .ok (.iload 4, 2) := by decide +kernel
theorem dX12_write_64 : decode cX12_write 64 = .ok (.iconst 0, 1) := by decide +kernel
theorem dX12_write_65 : decode cX12_write 65 = .ok (.iastore, 1) := by decide +kernel
theorem dX12_write_66 : decode cX12_write 66 = .ok (.iinc 4 1, 3) := by decide +kernel
theorem dX12_write_69 : decode cX12_write 69 = .ok (.goto (-17), 3) := by decide +kernel
theorem dX12_write_72 : decode cX12_write 72 = .ok (.iconst 0, 1) := by decide +kernel
theorem dX12_write_73 : decode cX12_write 73 = .ok (.istore 4, 2) := by decide +kernel
theorem dX12_write_75 : decode cX12_write 75 = .ok (.iload 4, 2) := by decide +kernel
theorem dX12_write_77 : decode cX12_write 77 = .ok (.iload_n 3, 1) := by decide +kernel
theorem dX12_write_78 : decode cX12_write 78 = .ok (.if_icmp .ge 130, 3) := by decide +kernel
theorem dX12_write_208 : decode cX12_write 208 = .ok (.aload_n 0, 1) := by decide +kernel
theorem dX12_write_209 : decode cX12_write 209 = .ok (.aload_n 0, 1) := by decide +kernel
theorem dX12_write_210 : decode cX12_write 210 = .ok (.getfield 337, 3) := by decide +kernel
theorem dX12_write_213 : decode cX12_write 213 = .ok (.putfield 361, 3) := by decide +kernel
theorem dX12_write_216 : decode cX12_write 216 = .ok (.aload_n 0, 1) := by decide +kernel
theorem dX12_write_217 : decode cX12_write 217 = .ok (.iconst 1, 1) := by decide +kernel
theorem dX12_write_218 : decode cX12_write 218 = .ok (.putfield 364, 3) := by decide +kernel
theorem dX12_write_221 : decode cX12_write 221 = .ok (.iconst 0, 1) := by decide +kernel
theorem dX12_write_222 : decode cX12_write 222 = .ok (.istore 5, 2) := by decide +kernel
theorem dX12_write_224 : decode cX12_write 224 = .ok (.iload 5, 2) := by decide +kernel
theorem dX12_write_226 : decode cX12_write 226 = .ok (.aload_n 0, 1) := by decide +kernel
theorem dX12_write_227 : decode cX12_write 227 = .ok (.getfield 337, 3) := by decide +kernel
theorem dX12_write_230 : decode cX12_write 230 = .ok (.if_icmp .ge 23, 3) := by decide +kernel
theorem dX12_write_253 : decode cX12_write 253 = .ok (.iconst 0, 1) := by decide +kernel
theorem dX12_write_254 : decode cX12_write 254 = .ok (.istore 5, 2) := by decide +kernel
theorem dX12_write_256 : decode cX12_write 256 = .ok (.iload 5, 2) := by decide +kernel
theorem dX12_write_258 : decode cX12_write 258 = .ok (.iconst 5, 1) := by decide +kernel
theorem dX12_write_259 : decode cX12_write 259 = .ok (.if_icmp .ge 23, 3) := by decide +kernel
theorem dX12_write_262 : decode cX12_write 262 = .ok (.aload_n 0, 1) := by decide +kernel
theorem dX12_write_263 : decode cX12_write 263 = .ok (.getfield 137, 3) := by decide +kernel
theorem dX12_write_266 : decode cX12_write 266 = .ok (.iload 5, 2) := by decide +kernel
theorem dX12_write_268 : decode cX12_write 268 = .ok (.aload_n 0, 1) := by decide +kernel
theorem dX12_write_269 : decode cX12_write 269 = .ok (.getfield 140, 3) := by decide +kernel
theorem dX12_write_272 : decode cX12_write 272 = .ok (.iload 5, 2) := by decide +kernel
theorem dX12_write_274 : decode cX12_write 274 = .ok (.iaload, 1) := by decide +kernel
theorem dX12_write_275 : decode cX12_write 275 = .ok (.iastore, 1) := by decide +kernel
theorem dX12_write_276 : decode cX12_write 276 = .ok (.iinc 5 1, 3) := by decide +kernel
theorem dX12_write_279 : decode cX12_write 279 = .ok (.goto (-23), 3) := by decide +kernel
theorem dX12_write_282 : decode cX12_write 282 = .ok (.aload_n 0, 1) := by decide +kernel
theorem dX12_write_283 : decode cX12_write 283 = .ok (.getfield 361, 3) := by decide +kernel
theorem dX12_write_286 : decode cX12_write 286 = .ok (.ireturn, 1) := by decide +kernel
set_option maxRecDepth 20000 in
theorem ggX12_written_X12_in : GoodIn wsX12_written wsX12_in := goodIn_r _ [6] (by decide +kernel) (by decide +kernel)
set_option maxRecDepth 20000 in
theorem gX12_written_X12_in : GoodIn wsX12_written (va_wsS RX12 226 yX12_in wsX12_in) := goodIn_app (goodIn_of _ (by decide +kernel)) ggX12_written_X12_in
theorem dX12_written_0 : decode cX12_written 0 = .ok (.iload_n 1, 1) := by decide +kernel
theorem dX12_written_1 : decode cX12_written 1 = .ok (.iconst 0, 1) := by decide +kernel
theorem dX12_written_2 : decode cX12_written 2 = .ok (.aload_n 0, 1) := by decide +kernel
theorem dX12_written_3 : decode cX12_written 3 = .ok (.getfield 361, 3) := by decide +kernel
theorem dX12_written_6 : decode cX12_written 6 = .ok (.iconst 1, 1) := by decide +kernel
theorem dX12_written_7 : decode cX12_written 7 = .ok (.isub, 1) := by decide +kernel
theorem dX12_written_8 : decode cX12_written 8 = .ok (.invokestatic 226, 3) := by decide +kernel
theorem dX12_written_11 : decode cX12_written 11 = .ok (.ifCond .eq 16, 3) := by decide +kernel
theorem dX12_written_27 : decode cX12_written 27 = .ok (.iconst (-1), 1) := by decide +kernel
theorem dX12_written_28 : decode cX12_written 28 = .ok (.ireturn, 1) := by decide +kernel
theorem dX12_counted_0 : decode cX12_counted 0 = .ok (.aload_n 0, 1) := by decide +kernel
theorem dX12_counted_1 : decode cX12_counted 1 = .ok (.getfield 364, 3) := by decide +kernel
theorem dX12_counted_4 : decode cX12_counted 4 = .ok (.ifCond .eq 21, 3) := by decide +kernel
theorem dX12_counted_25 : decode cX12_counted 25 = .ok (.iconst (-1), 1) := by decide +kernel
theorem dX12_counted_26 : decode cX12_counted 26 = .ok (.ireturn, 1) := by decide +kernel
set_option maxRecDepth 20000 in
theorem ggX12_mixed_X12_in : GoodIn wsX12_mixed wsX12_in := goodIn_r _ [11] (by decide +kernel) (by decide +kernel)
set_option maxRecDepth 20000 in
theorem gX12_mixed_X12_in : GoodIn wsX12_mixed (va_wsS RX12 226 yX12_in wsX12_in) := goodIn_app (goodIn_of _ (by decide +kernel)) ggX12_mixed_X12_in
set_option maxRecDepth 20000 in
theorem ggX12_mixed_X12_hasNought : GoodIn wsX12_mixed wsX12_hasNought := goodIn_r _ [15, 2, 128, 129, 130, 131, 132, 133, 134, 135, 136, 137, 138, 139, 140, 141, 142, 143, 144, 145, 146, 147, 148, 149, 150, 151, 152, 153, 154, 155, 156, 157, 158, 159, 160, 161, 162, 163, 164, 165, 166, 167, 168, 169, 170, 171, 172, 173, 174, 175, 176, 177, 178, 179, 180, 181, 182, 183, 184, 185, 186, 187, 188, 189, 190, 191, 192, 193, 194, 195, 196, 197, 198] (by decide +kernel) (by decide +kernel)
set_option maxRecDepth 20000 in
theorem gX12_mixed_X12_hasNought : GoodIn wsX12_mixed (wsV RX12 348 RX12 yX12_hasNought wsX12_hasNought) := goodIn_app (goodIn_of _ (by decide +kernel)) ggX12_mixed_X12_hasNought
set_option maxRecDepth 20000 in
theorem ggX12_mixed_X12_make : GoodIn wsX12_mixed wsX12_make := goodIn_r _ [19, 20, 21, 4, 22, 23, 24, 25, 26, 27, 28, 29, 30, 31, 32, 10, 33, 34, 35, 36, 37, 38, 39, 40, 41, 42, 43, 44, 45, 46, 47, 48, 49, 50, 51, 52, 53, 54, 55, 56, 57, 58, 59, 60, 61, 62, 63, 64, 65, 66, 67, 68, 69, 70, 71, 72, 73, 74, 75, 76, 77, 78, 79, 80, 81, 82, 83, 84, 85, 86, 87, 88, 89, 90, 91, 92, 93, 94, 95, 96, 97, 98, 99, 100, 128, 129, 130, 131, 132, 133, 134, 135, 136, 137, 138, 139, 140, 141, 142, 143, 144, 145, 146, 147, 148, 149, 150, 151, 152, 153, 154, 155, 156, 157, 158, 159, 160, 161, 162, 163, 164, 165, 166, 167, 168, 169, 170, 171, 172, 173, 174, 175, 176, 177, 178, 179, 180, 181, 182, 183, 184, 185, 186, 187, 188, 189, 190, 191, 192, 193, 194, 195, 196, 197, 198] (by decide +kernel) (by decide +kernel)
set_option maxRecDepth 20000 in
theorem gX12_mixed_X12_make : GoodIn wsX12_mixed (wsV RX12 315 RX12 yX12_make wsX12_make) := goodIn_app (goodIn_of _ (by decide +kernel)) ggX12_mixed_X12_make
set_option maxRecDepth 20000 in
theorem ggX12_mixed_X12_onward : GoodIn wsX12_mixed wsX12_onward := goodIn_r _ [126, 127, 4, 5, 128, 129, 130, 131, 132, 133, 134, 135, 136, 137, 138, 139, 140, 141, 142, 143, 144, 145, 146, 147, 148, 149, 150, 151, 152, 153, 154, 155, 156, 157, 158, 159, 160, 161, 162, 163, 164, 165, 166, 167, 168, 169, 170, 171, 172, 173, 174, 175, 176, 177, 178, 179, 180, 181, 182, 183, 184, 185, 186, 187, 188, 189, 190, 191, 192, 193, 194, 195, 196, 197, 198] (by decide +kernel) (by decide +kernel)
set_option maxRecDepth 20000 in
theorem gX12_mixed_X12_onward : GoodIn wsX12_mixed (wsV RX12 370 RX12 yX12_onward wsX12_onward) := goodIn_app (goodIn_of _ (by decide +kernel)) ggX12_mixed_X12_onward
theorem dX12_mixed_0 : decode cX12_mixed 0 = .ok (.aload_n 0, 1) := by decide +kernel
theorem dX12_mixed_1 : decode cX12_mixed 1 = .ok (.getfield 152, 3) := by decide +kernel
theorem dX12_mixed_4 : decode cX12_mixed 4 = .ok (.istore_n 2, 1) := by decide +kernel
theorem dX12_mixed_5 : decode cX12_mixed 5 = .ok (.aload_n 0, 1) := by decide +kernel
theorem dX12_mixed_6 : decode cX12_mixed 6 = .ok (.iconst 0, 1) := by decide +kernel
theorem dX12_mixed_7 : decode cX12_mixed 7 = .ok (.putfield 152, 3) := by decide +kernel
theorem dX12_mixed_10 : decode cX12_mixed 10 = .ok (.iload_n 1, 1) := by decide +kernel
theorem dX12_mixed_11 : decode cX12_mixed 11 = .ok (.iconst 0, 1) := by decide +kernel
theorem dX12_mixed_12 : decode cX12_mixed 12 = .ok (.bipush 50, 2) := by decide +kernel
theorem dX12_mixed_14 : decode cX12_mixed 14 = .ok (.invokestatic 226, 3) := by decide +kernel
theorem dX12_mixed_17 : decode cX12_mixed 17 = .ok (.ifCond .ne 6, 3) := by decide +kernel
theorem dX12_mixed_20 : decode cX12_mixed 20 = .ok (.bipush (-2), 2) := by decide +kernel
theorem dX12_mixed_22 : decode cX12_mixed 22 = .ok (.ireturn, 1) := by decide +kernel
theorem dX12_mixed_23 : decode cX12_mixed 23 = .ok (.aload_n 0, 1) := by decide +kernel
theorem dX12_mixed_24 : decode cX12_mixed 24 = .ok (.iload_n 2, 1) := by decide +kernel
theorem dX12_mixed_25 : decode cX12_mixed 25 = .ok (.invokevirtual 348, 3) := by decide +kernel
theorem dX12_mixed_28 : decode cX12_mixed 28 = .ok (.ifCond .eq 5, 3) := by decide +kernel
theorem dX12_mixed_33 : decode cX12_mixed 33 = .ok (.iconst 1, 1) := by decide +kernel
theorem dX12_mixed_34 : decode cX12_mixed 34 = .ok (.istore_n 3, 1) := by decide +kernel
theorem dX12_mixed_35 : decode cX12_mixed 35 = .ok (.iconst 0, 1) := by decide +kernel
theorem dX12_mixed_36 : decode cX12_mixed 36 = .ok (.istore 4, 2) := by decide +kernel
theorem dX12_mixed_38 : decode cX12_mixed 38 = .ok (.iload 4, 2) := by decide +kernel
theorem dX12_mixed_40 : decode cX12_mixed 40 = .ok (.iload_n 2, 1) := by decide +kernel
theorem dX12_mixed_41 : decode cX12_mixed 41 = .ok (.if_icmp .ge 29, 3) := by decide +kernel
theorem dX12_mixed_70 : decode cX12_mixed 70 = .ok (.iload_n 3, 1) := by decide +kernel
theorem dX12_mixed_71 : decode cX12_mixed 71 = .ok (.bipush 40, 2) := by decide +kernel
theorem dX12_mixed_73 : decode cX12_mixed 73 = .ok (.if_icmp .le 5, 3) := by decide +kernel
theorem dX12_mixed_78 : decode cX12_mixed 78 = .ok (.aload_n 0, 1) := by decide +kernel
theorem dX12_mixed_79 : decode cX12_mixed 79 = .ok (.invokevirtual 315, 3) := by decide +kernel
theorem dX12_mixed_82 : decode cX12_mixed 82 = .ok (.iconst 0, 1) := by decide +kernel
theorem dX12_mixed_83 : decode cX12_mixed 83 = .ok (.istore 4, 2) := by decide +kernel
theorem dX12_mixed_85 : decode cX12_mixed 85 = .ok (.iload 4, 2) := by decide +kernel
theorem dX12_mixed_87 : decode cX12_mixed 87 = .ok (.sipush 280, 3) := by decide +kernel
theorem dX12_mixed_90 : decode cX12_mixed 90 = .ok (.if_icmp .ge 17, 3) := by decide +kernel
theorem dX12_mixed_93 : decode cX12_mixed 93 = .ok (.aload_n 0, 1) := by decide +kernel
theorem dX12_mixed_94 : decode cX12_mixed 94 = .ok (.getfield 143, 3) := by decide +kernel
theorem dX12_mixed_97 : decode cX12_mixed 97 = .ok (.iload 4, 2) := by decide +kernel
theorem dX12_mixed_99 : decode cX12_mixed 99 = .ok (.iconst 0, 1) := by decide +kernel
theorem dX12_mixed_100 : decode cX12_mixed 100 = .ok (.iastore, 1) := by decide +kernel
theorem dX12_mixed_101 : decode cX12_mixed 101 = .ok (.iinc 4 1, 3) := by decide +kernel
theorem dX12_mixed_104 : decode cX12_mixed 104 = .ok (.goto (-19), 3) := by decide +kernel
theorem dX12_mixed_107 : decode cX12_mixed 107 = .ok (.iconst 0, 1) := by decide +kernel
theorem dX12_mixed_108 : decode cX12_mixed 108 = .ok (.istore 4, 2) := by decide +kernel
theorem dX12_mixed_110 : decode cX12_mixed 110 = .ok (.iconst 0, 1) := by decide +kernel
theorem dX12_mixed_111 : decode cX12_mixed 111 = .ok (.istore 5, 2) := by decide +kernel
theorem dX12_mixed_113 : decode cX12_mixed 113 = .ok (.iload 5, 2) := by decide +kernel
theorem dX12_mixed_115 : decode cX12_mixed 115 = .ok (.iload_n 2, 1) := by decide +kernel
theorem dX12_mixed_116 : decode cX12_mixed 116 = .ok (.if_icmp .ge 198, 3) := by decide +kernel
theorem dX12_mixed_314 : decode cX12_mixed 314 = .ok (.iconst 0, 1) := by decide +kernel
theorem dX12_mixed_315 : decode cX12_mixed 315 = .ok (.istore 6, 2) := by decide +kernel
theorem dX12_mixed_317 : decode cX12_mixed 317 = .ok (.iload 6, 2) := by decide +kernel
theorem dX12_mixed_319 : decode cX12_mixed 319 = .ok (.aload_n 0, 1) := by decide +kernel
theorem dX12_mixed_320 : decode cX12_mixed 320 = .ok (.getfield 222, 3) := by decide +kernel
theorem dX12_mixed_323 : decode cX12_mixed 323 = .ok (.if_icmp .gt 22, 3) := by decide +kernel
theorem dX12_mixed_326 : decode cX12_mixed 326 = .ok (.aload_n 0, 1) := by decide +kernel
theorem dX12_mixed_327 : decode cX12_mixed 327 = .ok (.getfield 146, 3) := by decide +kernel
theorem dX12_mixed_330 : decode cX12_mixed 330 = .ok (.bipush 7, 2) := by decide +kernel
theorem dX12_mixed_332 : decode cX12_mixed 332 = .ok (.iload_n 3, 1) := by decide +kernel
theorem dX12_mixed_333 : decode cX12_mixed 333 = .ok (.imul, 1) := by decide +kernel
theorem dX12_mixed_334 : decode cX12_mixed 334 = .ok (.iload 6, 2) := by decide +kernel
theorem dX12_mixed_336 : decode cX12_mixed 336 = .ok (.iadd, 1) := by decide +kernel
theorem dX12_mixed_337 : decode cX12_mixed 337 = .ok (.iconst 0, 1) := by decide +kernel
theorem dX12_mixed_338 : decode cX12_mixed 338 = .ok (.iastore, 1) := by decide +kernel
theorem dX12_mixed_339 : decode cX12_mixed 339 = .ok (.iinc 6 1, 3) := by decide +kernel
theorem dX12_mixed_342 : decode cX12_mixed 342 = .ok (.goto (-25), 3) := by decide +kernel
theorem dX12_mixed_345 : decode cX12_mixed 345 = .ok (.iload_n 3, 1) := by decide +kernel
theorem dX12_mixed_346 : decode cX12_mixed 346 = .ok (.iconst 1, 1) := by decide +kernel
theorem dX12_mixed_347 : decode cX12_mixed 347 = .ok (.isub, 1) := by decide +kernel
theorem dX12_mixed_348 : decode cX12_mixed 348 = .ok (.istore 6, 2) := by decide +kernel
theorem dX12_mixed_350 : decode cX12_mixed 350 = .ok (.iload 6, 2) := by decide +kernel
theorem dX12_mixed_352 : decode cX12_mixed 352 = .ok (.ifCond .lt 77, 3) := by decide +kernel
theorem dX12_mixed_355 : decode cX12_mixed 355 = .ok (.iconst 0, 1) := by decide +kernel
theorem dX12_mixed_356 : decode cX12_mixed 356 = .ok (.istore 7, 2) := by decide +kernel
theorem dX12_mixed_358 : decode cX12_mixed 358 = .ok (.iload 7, 2) := by decide +kernel
theorem dX12_mixed_360 : decode cX12_mixed 360 = .ok (.aload_n 0, 1) := by decide +kernel
theorem dX12_mixed_361 : decode cX12_mixed 361 = .ok (.getfield 222, 3) := by decide +kernel
theorem dX12_mixed_364 : decode cX12_mixed 364 = .ok (.if_icmp .gt 59, 3) := by decide +kernel
theorem dX12_mixed_367 : decode cX12_mixed 367 = .ok (.aload_n 0, 1) := by decide +kernel
theorem dX12_mixed_368 : decode cX12_mixed 368 = .ok (.getfield 146, 3) := by decide +kernel
theorem dX12_mixed_371 : decode cX12_mixed 371 = .ok (.bipush 7, 2) := by decide +kernel
theorem dX12_mixed_373 : decode cX12_mixed 373 = .ok (.iload 6, 2) := by decide +kernel
theorem dX12_mixed_375 : decode cX12_mixed 375 = .ok (.imul, 1) := by decide +kernel
theorem dX12_mixed_376 : decode cX12_mixed 376 = .ok (.iload 7, 2) := by decide +kernel
theorem dX12_mixed_378 : decode cX12_mixed 378 = .ok (.iadd, 1) := by decide +kernel
theorem dX12_mixed_379 : decode cX12_mixed 379 = .ok (.aload_n 0, 1) := by decide +kernel
theorem dX12_mixed_380 : decode cX12_mixed 380 = .ok (.getfield 143, 3) := by decide +kernel
theorem dX12_mixed_383 : decode cX12_mixed 383 = .ok (.bipush 7, 2) := by decide +kernel
theorem dX12_mixed_385 : decode cX12_mixed 385 = .ok (.iload 6, 2) := by decide +kernel
theorem dX12_mixed_387 : decode cX12_mixed 387 = .ok (.imul, 1) := by decide +kernel
theorem dX12_mixed_388 : decode cX12_mixed 388 = .ok (.iload 7, 2) := by decide +kernel
theorem dX12_mixed_390 : decode cX12_mixed 390 = .ok (.iadd, 1) := by decide +kernel
theorem dX12_mixed_391 : decode cX12_mixed 391 = .ok (.iaload, 1) := by decide +kernel
theorem dX12_mixed_392 : decode cX12_mixed 392 = .ok (.iload 6, 2) := by decide +kernel
theorem dX12_mixed_394 : decode cX12_mixed 394 = .ok (.iconst 1, 1) := by decide +kernel
theorem dX12_mixed_395 : decode cX12_mixed 395 = .ok (.iadd, 1) := by decide +kernel
theorem dX12_mixed_396 : decode cX12_mixed 396 = .ok (.iload_n 3, 1) := by decide +kernel
theorem dX12_mixed_397 : decode cX12_mixed 397 = .ok (.if_icmp .ge 17, 3) := by decide +kernel
theorem dX12_mixed_414 : decode cX12_mixed 414 = .ok (.iconst 0, 1) := by decide +kernel
theorem dX12_mixed_415 : decode cX12_mixed 415 = .ok (.iadd, 1) := by decide +kernel
theorem dX12_mixed_416 : decode cX12_mixed 416 = .ok (.iastore, 1) := by decide +kernel
theorem dX12_mixed_417 : decode cX12_mixed 417 = .ok (.iinc 7 1, 3) := by decide +kernel
theorem dX12_mixed_420 : decode cX12_mixed 420 = .ok (.goto (-62), 3) := by decide +kernel
theorem dX12_mixed_423 : decode cX12_mixed 423 = .ok (.iinc 6 (-1), 3) := by decide +kernel
theorem dX12_mixed_426 : decode cX12_mixed 426 = .ok (.goto (-76), 3) := by decide +kernel
theorem dX12_mixed_429 : decode cX12_mixed 429 = .ok (.aload_n 0, 1) := by decide +kernel
theorem dX12_mixed_430 : decode cX12_mixed 430 = .ok (.iload_n 3, 1) := by decide +kernel
theorem dX12_mixed_431 : decode cX12_mixed 431 = .ok (.putfield 374, 3) := by decide +kernel
theorem dX12_mixed_434 : decode cX12_mixed 434 = .ok (.aload_n 0, 1) := by decide +kernel
theorem dX12_mixed_435 : decode cX12_mixed 435 = .ok (.iconst 0, 1) := by decide +kernel
theorem dX12_mixed_436 : decode cX12_mixed 436 = .ok (.iconst (-1), 1) := by decide +kernel
theorem dX12_mixed_437 : decode cX12_mixed 437 = .ok (.iload_n 1, 1) := by decide +kernel
theorem dX12_mixed_438 : decode cX12_mixed 438 = .ok (.invokevirtual 370, 3) := by decide +kernel
theorem dX12_mixed_441 : decode cX12_mixed 441 = .ok (.istore 6, 2) := by decide +kernel
theorem dX12_mixed_443 : decode cX12_mixed 443 = .ok (.iconst (-1), 1) := by decide +kernel
theorem dX12_mixed_444 : decode cX12_mixed 444 = .ok (.istore 7, 2) := by decide +kernel
theorem dX12_mixed_446 : decode cX12_mixed 446 = .ok (.iconst 0, 1) := by decide +kernel
theorem dX12_mixed_447 : decode cX12_mixed 447 = .ok (.istore 8, 2) := by decide +kernel
theorem dX12_mixed_449 : decode cX12_mixed 449 = .ok (.iload 8, 2) := by decide +kernel
theorem dX12_mixed_451 : decode cX12_mixed 451 = .ok (.iload_n 3, 1) := by decide +kernel
theorem dX12_mixed_452 : decode cX12_mixed 452 = .ok (.if_icmp .ge 79, 3) := by decide +kernel
theorem dX12_mixed_455 : decode cX12_mixed 455 = .ok (.aload_n 0, 1) := by decide +kernel
theorem dX12_mixed_456 : decode cX12_mixed 456 = .ok (.iload 8, 2) := by decide +kernel
theorem dX12_mixed_458 : decode cX12_mixed 458 = .ok (.iload 7, 2) := by decide +kernel
theorem dX12_mixed_460 : decode cX12_mixed 460 = .ok (.iload_n 1, 1) := by decide +kernel
theorem dX12_mixed_461 : decode cX12_mixed 461 = .ok (.invokevirtual 370, 3) := by decide +kernel
theorem dX12_mixed_464 : decode cX12_mixed 464 = .ok (.istore 9, 2) := by decide +kernel
theorem dX12_mixed_466 : decode cX12_mixed 466 = .ok (.iconst 0, 1) := by decide +kernel
theorem dX12_mixed_467 : decode cX12_mixed 467 = .ok (.istore 10, 2) := by decide +kernel
theorem dX12_mixed_469 : decode cX12_mixed 469 = .ok (.aload_n 0, 1) := by decide +kernel
theorem dX12_mixed_470 : decode cX12_mixed 470 = .ok (.getfield 146, 3) := by decide +kernel
theorem dX12_mixed_473 : decode cX12_mixed 473 = .ok (.bipush 7, 2) := by decide +kernel
theorem dX12_mixed_475 : decode cX12_mixed 475 = .ok (.iload 8, 2) := by decide +kernel
theorem dX12_mixed_477 : decode cX12_mixed 477 = .ok (.imul, 1) := by decide +kernel
theorem dX12_mixed_478 : decode cX12_mixed 478 = .ok (.iload 10, 2) := by decide +kernel
end
section
theorem dX12_mixed_480 : decode cX12_mixed 480 = .ok (.iadd, 1) := by decide +kernel
theorem dX12_mixed_481 : decode cX12_mixed 481 = .ok (.iaload, 1) := by decide +kernel
theorem dX12_mixed_482 : decode cX12_mixed 482 = .ok (.iload 7, 2) := by decide +kernel
theorem dX12_mixed_484 : decode cX12_mixed 484 = .ok (.iconst (-1), 1) := by decide +kernel
theorem dX12_mixed_485 : decode cX12_mixed 485 = .ok (.if_icmp .eq 10, 3) := by decide +kernel
theorem dX12_mixed_495 : decode cX12_mixed 495 = .ok (.iconst 0, 1) := by decide +kernel
theorem dX12_mixed_496 : decode cX12_mixed 496 = .ok (.goto 4, 3) := by decide +kernel
theorem dX12_mixed_500 : decode cX12_mixed 500 = .ok (.iadd, 1) := by decide +kernel
theorem dX12_mixed_501 : decode cX12_mixed 501 = .ok (.iload 9, 2) := by decide +kernel
theorem dX12_mixed_503 : decode cX12_mixed 503 = .ok (.if_icmp .eq 9, 3) := by decide +kernel
theorem dX12_mixed_512 : decode cX12_mixed 512 = .ok (.aload_n 0, 1) := by decide +kernel
theorem dX12_mixed_513 : decode cX12_mixed 513 = .ok (.getfield 149, 3) := by decide +kernel
theorem dX12_mixed_516 : decode cX12_mixed 516 = .ok (.iload 8, 2) := by decide +kernel
theorem dX12_mixed_518 : decode cX12_mixed 518 = .ok (.iload 10, 2) := by decide +kernel
theorem dX12_mixed_520 : decode cX12_mixed 520 = .ok (.iastore, 1) := by decide +kernel
theorem dX12_mixed_521 : decode cX12_mixed 521 = .ok (.iload 10, 2) := by decide +kernel
theorem dX12_mixed_523 : decode cX12_mixed 523 = .ok (.istore 7, 2) := by decide +kernel
theorem dX12_mixed_525 : decode cX12_mixed 525 = .ok (.iinc 8 1, 3) := by decide +kernel
theorem dX12_mixed_528 : decode cX12_mixed 528 = .ok (.goto (-79), 3) := by decide +kernel
theorem dX12_mixed_531 : decode cX12_mixed 531 = .ok (.iload 6, 2) := by decide +kernel
theorem dX12_mixed_533 : decode cX12_mixed 533 = .ok (.ireturn, 1) := by decide +kernel
theorem dX12_onward_0 : decode cX12_onward 0 = .ok (.ldc_w 379, 3) := by decide +kernel
theorem dX12_onward_3 : decode cX12_onward 3 = .ok (.istore 4, 2) := by decide +kernel
theorem dX12_onward_5 : decode cX12_onward 5 = .ok (.iconst 0, 1) := by decide +kernel
theorem dX12_onward_6 : decode cX12_onward 6 = .ok (.istore 5, 2) := by decide +kernel
theorem dX12_onward_8 : decode cX12_onward 8 = .ok (.iload 5, 2) := by decide +kernel
theorem dX12_onward_10 : decode cX12_onward 10 = .ok (.aload_n 0, 1) := by decide +kernel
theorem dX12_onward_11 : decode cX12_onward 11 = .ok (.getfield 222, 3) := by decide +kernel
theorem dX12_onward_14 : decode cX12_onward 14 = .ok (.if_icmp .gt 56, 3) := by decide +kernel
theorem dX12_onward_17 : decode cX12_onward 17 = .ok (.aload_n 0, 1) := by decide +kernel
theorem dX12_onward_18 : decode cX12_onward 18 = .ok (.getfield 146, 3) := by decide +kernel
theorem dX12_onward_21 : decode cX12_onward 21 = .ok (.bipush 7, 2) := by decide +kernel
theorem dX12_onward_23 : decode cX12_onward 23 = .ok (.iload_n 1, 1) := by decide +kernel
theorem dX12_onward_24 : decode cX12_onward 24 = .ok (.imul, 1) := by decide +kernel
theorem dX12_onward_25 : decode cX12_onward 25 = .ok (.iload 5, 2) := by decide +kernel
theorem dX12_onward_27 : decode cX12_onward 27 = .ok (.iadd, 1) := by decide +kernel
theorem dX12_onward_28 : decode cX12_onward 28 = .ok (.iaload, 1) := by decide +kernel
theorem dX12_onward_29 : decode cX12_onward 29 = .ok (.iload_n 2, 1) := by decide +kernel
theorem dX12_onward_30 : decode cX12_onward 30 = .ok (.iconst (-1), 1) := by decide +kernel
theorem dX12_onward_31 : decode cX12_onward 31 = .ok (.if_icmp .eq 9, 3) := by decide +kernel
theorem dX12_onward_40 : decode cX12_onward 40 = .ok (.iconst 0, 1) := by decide +kernel
theorem dX12_onward_41 : decode cX12_onward 41 = .ok (.goto 4, 3) := by decide +kernel
theorem dX12_onward_45 : decode cX12_onward 45 = .ok (.iadd, 1) := by decide +kernel
theorem dX12_onward_46 : decode cX12_onward 46 = .ok (.istore 6, 2) := by decide +kernel
theorem dX12_onward_48 : decode cX12_onward 48 = .ok (.iload 6, 2) := by decide +kernel
theorem dX12_onward_50 : decode cX12_onward 50 = .ok (.iload 4, 2) := by decide +kernel
theorem dX12_onward_52 : decode cX12_onward 52 = .ok (.if_icmp .ge 8, 3) := by decide +kernel
theorem dX12_onward_55 : decode cX12_onward 55 = .ok (.iload 6, 2) := by decide +kernel
theorem dX12_onward_57 : decode cX12_onward 57 = .ok (.goto 5, 3) := by decide +kernel
theorem dX12_onward_62 : decode cX12_onward 62 = .ok (.istore 4, 2) := by decide +kernel
theorem dX12_onward_64 : decode cX12_onward 64 = .ok (.iinc 5 1, 3) := by decide +kernel
theorem dX12_onward_67 : decode cX12_onward 67 = .ok (.goto (-59), 3) := by decide +kernel
theorem dX12_onward_70 : decode cX12_onward 70 = .ok (.iload 4, 2) := by decide +kernel
theorem dX12_onward_72 : decode cX12_onward 72 = .ok (.ireturn, 1) := by decide +kernel
set_option maxRecDepth 20000 in
theorem ggX12_line_X12_in : GoodIn wsX12_line wsX12_in := goodIn_r _ [6] (by decide +kernel) (by decide +kernel)
set_option maxRecDepth 20000 in
theorem gX12_line_X12_in : GoodIn wsX12_line (va_wsS RX12 226 yX12_in wsX12_in) := goodIn_app (goodIn_of _ (by decide +kernel)) ggX12_line_X12_in
theorem dX12_line_0 : decode cX12_line 0 = .ok (.iload_n 1, 1) := by decide +kernel
theorem dX12_line_1 : decode cX12_line 1 = .ok (.iconst 0, 1) := by decide +kernel
theorem dX12_line_2 : decode cX12_line 2 = .ok (.aload_n 0, 1) := by decide +kernel
theorem dX12_line_3 : decode cX12_line 3 = .ok (.getfield 374, 3) := by decide +kernel
theorem dX12_line_6 : decode cX12_line 6 = .ok (.iconst 1, 1) := by decide +kernel
theorem dX12_line_7 : decode cX12_line 7 = .ok (.isub, 1) := by decide +kernel
theorem dX12_line_8 : decode cX12_line 8 = .ok (.invokestatic 226, 3) := by decide +kernel
theorem dX12_line_11 : decode cX12_line 11 = .ok (.ifCond .eq 12, 3) := by decide +kernel
theorem dX12_line_23 : decode cX12_line 23 = .ok (.iconst (-1), 1) := by decide +kernel
theorem dX12_line_24 : decode cX12_line 24 = .ok (.ireturn, 1) := by decide +kernel
theorem dX12_count_0 : decode cX12_count 0 = .ok (.iload_n 1, 1) := by decide +kernel
theorem dX12_count_1 : decode cX12_count 1 = .ok (.ifCond .ne 10, 3) := by decide +kernel
theorem dX12_count_4 : decode cX12_count 4 = .ok (.aload_n 0, 1) := by decide +kernel
theorem dX12_count_5 : decode cX12_count 5 = .ok (.getfield 222, 3) := by decide +kernel
theorem dX12_count_8 : decode cX12_count 8 = .ok (.goto 28, 3) := by decide +kernel
theorem dX12_count_11 : decode cX12_count 11 = .ok (.iload_n 1, 1) := by decide +kernel
theorem dX12_count_12 : decode cX12_count 12 = .ok (.iconst 1, 1) := by decide +kernel
theorem dX12_count_13 : decode cX12_count 13 = .ok (.if_icmp .ne 10, 3) := by decide +kernel
theorem dX12_count_16 : decode cX12_count 16 = .ok (.aload_n 0, 1) := by decide +kernel
theorem dX12_count_17 : decode cX12_count 17 = .ok (.getfield 312, 3) := by decide +kernel
theorem dX12_count_20 : decode cX12_count 20 = .ok (.goto 16, 3) := by decide +kernel
theorem dX12_count_23 : decode cX12_count 23 = .ok (.iload_n 1, 1) := by decide +kernel
theorem dX12_count_24 : decode cX12_count 24 = .ok (.iconst 2, 1) := by decide +kernel
theorem dX12_count_25 : decode cX12_count 25 = .ok (.if_icmp .ne 10, 3) := by decide +kernel
theorem dX12_count_28 : decode cX12_count 28 = .ok (.aload_n 0, 1) := by decide +kernel
theorem dX12_count_29 : decode cX12_count 29 = .ok (.getfield 152, 3) := by decide +kernel
theorem dX12_count_32 : decode cX12_count 32 = .ok (.goto 4, 3) := by decide +kernel
theorem dX12_count_35 : decode cX12_count 35 = .ok (.iconst (-1), 1) := by decide +kernel
theorem dX12_count_36 : decode cX12_count 36 = .ok (.ireturn, 1) := by decide +kernel
end
section
/-! what the tables say of the nest and of arrays of objects; small facts of numbers; Arrays.fill over noughts -/
def EnvOK (U : State) : Prop := va_Nw (.methodLinkNest RX11 11 yX7_init RX11) U ∧ va_Nw (.methodLinkNest RX11 29 yX5_init RX11) U ∧ va_Nw (.methodLinkNest RX11 36 yX4_init RX11) U ∧ va_Nw (.methodLinkNest RX11 43 yX9_init RX11) U ∧ va_Nw (.methodLinkNest RX11 59 yX3_init RX11) U ∧ va_Nw (.methodLinkNest RX11 66 yX0_init RX11) U ∧ va_Nw (.methodLinkNest RX11 86 yX8_init RX11) U ∧ va_Nw (.methodLinkNest RX11 93 yX6_init RX11) U ∧ va_Nw (.methodLinkNest RX11 100 yX2_init RX11) U ∧ va_Nw (.methodLinkNest RX9 11 yX3_init RX11) U ∧ va_AO RX1 U ∧ va_AO RX5 U ∧ va_AO RX10 U
theorem en_nRX11_11 {U : State} (h : EnvOK U) : va_Nw (.methodLinkNest RX11 11 yX7_init RX11) U := h.1
theorem en_nRX11_29 {U : State} (h : EnvOK U) : va_Nw (.methodLinkNest RX11 29 yX5_init RX11) U := h.2.1
theorem en_nRX11_36 {U : State} (h : EnvOK U) : va_Nw (.methodLinkNest RX11 36 yX4_init RX11) U := h.2.2.1
theorem en_nRX11_43 {U : State} (h : EnvOK U) : va_Nw (.methodLinkNest RX11 43 yX9_init RX11) U := h.2.2.2.1
theorem en_nRX11_59 {U : State} (h : EnvOK U) : va_Nw (.methodLinkNest RX11 59 yX3_init RX11) U := h.2.2.2.2.1
theorem en_nRX11_66 {U : State} (h : EnvOK U) : va_Nw (.methodLinkNest RX11 66 yX0_init RX11) U := h.2.2.2.2.2.1
theorem en_nRX11_86 {U : State} (h : EnvOK U) : va_Nw (.methodLinkNest RX11 86 yX8_init RX11) U := h.2.2.2.2.2.2.1
theorem en_nRX11_93 {U : State} (h : EnvOK U) : va_Nw (.methodLinkNest RX11 93 yX6_init RX11) U := h.2.2.2.2.2.2.2.1
theorem en_nRX11_100 {U : State} (h : EnvOK U) : va_Nw (.methodLinkNest RX11 100 yX2_init RX11) U := h.2.2.2.2.2.2.2.2.1
theorem en_nRX9_11 {U : State} (h : EnvOK U) : va_Nw (.methodLinkNest RX9 11 yX3_init RX11) U := h.2.2.2.2.2.2.2.2.2.1
theorem en_aoRX1 {U : State} (h : EnvOK U) : va_AO RX1 U := h.2.2.2.2.2.2.2.2.2.2.1
theorem en_aoRX5 {U : State} (h : EnvOK U) : va_AO RX5 U := h.2.2.2.2.2.2.2.2.2.2.2.1
theorem en_aoRX10 {U : State} (h : EnvOK U) : va_AO RX10 U := h.2.2.2.2.2.2.2.2.2.2.2.2
theorem en_call {U : State} {g : JFrame} {mk : MethodId} {a : Array Value} (h : EnvOK U) : EnvOK (U.calling g mk a) := ⟨va_Nw.same rfl rfl (h.1), va_Nw.same rfl rfl (h.2.1), va_Nw.same rfl rfl (h.2.2.1), va_Nw.same rfl rfl (h.2.2.2.1), va_Nw.same rfl rfl (h.2.2.2.2.1), va_Nw.same rfl rfl (h.2.2.2.2.2.1), va_Nw.same rfl rfl (h.2.2.2.2.2.2.1), va_Nw.same rfl rfl (h.2.2.2.2.2.2.2.1), va_Nw.same rfl rfl (h.2.2.2.2.2.2.2.2.1), va_Nw.same rfl rfl (h.2.2.2.2.2.2.2.2.2.1), va_AO.moved (u := U) (U := U.calling g mk a) (Vm.Alike.refl U.vm) (h.2.2.2.2.2.2.2.2.2.2.1), va_AO.moved (u := U) (U := U.calling g mk a) (Vm.Alike.refl U.vm) (h.2.2.2.2.2.2.2.2.2.2.2.1), va_AO.moved (u := U) (U := U.calling g mk a) (Vm.Alike.refl U.vm) (h.2.2.2.2.2.2.2.2.2.2.2.2)⟩
theorem en_warm {s U : State} (hW : s.WarmedH U.vm) (h : EnvOK s) : EnvOK U := ⟨va_Nw.warmM hW (h.1), va_Nw.warmM hW (h.2.1), va_Nw.warmM hW (h.2.2.1), va_Nw.warmM hW (h.2.2.2.1), va_Nw.warmM hW (h.2.2.2.2.1), va_Nw.warmM hW (h.2.2.2.2.2.1), va_Nw.warmM hW (h.2.2.2.2.2.2.1), va_Nw.warmM hW (h.2.2.2.2.2.2.2.1), va_Nw.warmM hW (h.2.2.2.2.2.2.2.2.1), va_Nw.warmM hW (h.2.2.2.2.2.2.2.2.2.1), va_AO.moved hW.alike (h.2.2.2.2.2.2.2.2.2.2.1), va_AO.moved hW.alike (h.2.2.2.2.2.2.2.2.2.2.2.1), va_AO.moved hW.alike (h.2.2.2.2.2.2.2.2.2.2.2.2)⟩
theorem z_lt (a b : Int32) : a < b ↔ a.toInt < b.toInt := Int32.lt_iff_toInt_lt
theorem z_le (a b : Int32) : a ≤ b ↔ a.toInt ≤ b.toInt := Int32.le_iff_toInt_le
theorem z_eqi (a b : Int32) : a = b ↔ a.toInt = b.toInt := Int32.toInt_inj.symm
theorem z_e {a b : Int32} (h : a.toInt = b.toInt) : a = b := Int32.toInt_inj.mp h
theorem zl_m2 : (-2 : Int32).toInt = -2 := by decide
theorem zl_m1 : (-1 : Int32).toInt = -1 := by decide
theorem zl_0 : (0 : Int32).toInt = 0 := by decide
theorem zl_1 : (1 : Int32).toInt = 1 := by decide
theorem zl_2 : (2 : Int32).toInt = 2 := by decide
theorem zl_50 : (50 : Int32).toInt = 50 := by decide
theorem zl_100000 : (100000 : Int32).toInt = 100000 := by decide
theorem z_upd (k : Nat) : upd (fun _ => 0) k 0 = fun _ => 0 := by
  funext j
  simp [upd]
theorem z_out3 {x : Int32} (h0 : ¬ (x = 0)) (h1 : ¬ (x = 1)) (h2 : ¬ (x = 2)) : x.toInt < 0 ∨ 2 < x.toInt := by
  simp only [z_eqi, zl_0, zl_1, zl_2] at h0 h1 h2
  omega
theorem z_lk2 {x : Int32} {a b d : Int} (h0 : ¬ (x = 0)) (h1 : ¬ (x = 1)) : Op.lookupswitch.offset [(0, a), (1, b)] d x.toInt = d := by
  simp only [z_eqi, zl_0, zl_1] at h0 h1
  rw [show Op.lookupswitch.offset [(0, a), (1, b)] d x.toInt = if (0 : Int) = x.toInt then a else if (1 : Int) = x.toInt then b else d from rfl, if_neg (fun h => h0 h.symm), if_neg (fun h => h1 h.symm)]
set_option maxHeartbeats 4000000 in
set_option maxRecDepth 100000 in
theorem fill_loop {p : Program} {l : Launch} {e : Env} {R : Room} {s : State} {m : MethodId} {args : Array Value} {below : List Frame} {meth : Method} {c : Code} {Q : State → Prop} {A : Nat → Prop} {dC : Nat → ClassId} {dI : Nat → Nat → Nat} {h0 : Nat} {k0 : ClassId} {n : Nat} (hn : n < 2 ^ 31) (hx : p.tables.exec = Jvm.exec) (hb : c.code = cJ7_fill_53178) (hK : va_K (dC, dI) vwCl [(k0, .int)] s) (hD : va_D A [(h0, .inl (k0, n, .inl (fun _ => 0)))])
    (hexit : ∀ (H : Heap) (locs : List Loc) (ls : Array Slot), va_P (dC, dI) vwCl [(h0, .inl (k0, n, .inl (fun _ => 0)))] H → va_S A s.heap H locs → W p l e R s m args below meth c H locs 0 0 Q (F0 m 20 ls [])) :
    ∀ (d i : Nat) (H : Heap) (locs : List Loc) (ls : Array Slot), i ≤ n → n - i < d → va_P (dC, dI) vwCl [(h0, .inl (k0, n, .inl (fun _ => 0)))] H → va_S A s.heap H locs → lv_has ls 4 [(2, .int (nI i)), (3, .int (nI n)), (0, .ref h0), (1, .int 0)] → W p l e R s m args below meth c H locs 0 0 Q (F0 m 5 ls []) := by
  intro d
  induction d with
  | zero => intro i H locs ls _ h; omega
  | succ d ih =>
    intro i H locs ls hi hd hP hS hl
    refine lv_iload_n hx hb dJ7_fill_53178_5 rfl (lv_at hl 0 rfl) ?_
    refine lv_iload_n hx hb dJ7_fill_53178_6 rfl (lv_at hl 1 rfl) ?_
    refine lv_icmp_ge (tgt := 20) hx hb dJ7_fill_53178_7 (by decide) (fun c1 => hexit H locs ls hP hS) (fun c1 => ?_)
    have hlt : i < n := by
      rcases Nat.lt_or_ge i n with q | q
      · exact q
      · exact absurd (nI_le q (by omega)) c1
    refine lv_aload_n hx hb dJ7_fill_53178_10 rfl (lv_at hl 2 rfl) ?_
    refine lv_iload_n hx hb dJ7_fill_53178_11 rfl (lv_at hl 0 rfl) ?_
    refine lv_iload_n hx hb dJ7_fill_53178_12 rfl (lv_at hl 3 rfl) ?_
    refine va_iast hx hb hK hP hD hS 0 0 rfl rfl (vp_in_nI hlt hn) dJ7_fill_53178_13 (fun H locs hP hD2 hS => ?_)
    obtain ⟨f, ef, hP⟩ : ∃ f : Nat → Int32, f = upd (fun _ => 0) (nI i).toNatClampNeg 0 ∧ va_P (dC, dI) vwCl [(h0, .inl (k0, n, .inl f))] H := ⟨_, rfl, hP⟩
    obtain rfl : f = fun _ => 0 := ef.trans (z_upd _)
    refine lv_iinc (v := nI (i + 1)) (lv' := [(2, .int (nI (i + 1))), (3, .int (nI n)), (0, .ref h0), (1, .int 0)]) hx hb dJ7_fill_53178_14 hl (k := 0) rfl (nI_1 i) (by decide) rfl (fun ls hl => ?_)
    refine lv_goto (tgt := 5) hx hb dJ7_fill_53178_17 (by decide) ?_
    exact ih (i + 1) H locs ls hlt (by omega) hP hS hl
set_option maxHeartbeats 4000000 in
set_option maxRecDepth 100000 in
/-- Arrays.fill(a, 0) where a holds noughts alone: they stay -/
theorem c_fill (l : Launch) (dC : Nat → ClassId) (dI : Nat → Nat → Nat) (sz : Nat) (h0 : Nat) (k0 : ClassId) (n : Nat) (hn : n < 2 ^ 31) : Met l yJ7_fill_53178 wsJ7_fill_53178 ({ frames := 2, cells := 0, slots := 0, locals := 60 }) (va_Pc [.ref h0, .int 0] (fun U => U.heap.size = sz ∧ va_P (dC, dI) vwCl [(h0, .inl (k0, n, .inl (fun _ => 0)))] U.heap ∧ va_K (dC, dI) vwCl [(k0, .int)] U ∧ va_D (fun _ => True) [(h0, .inl (k0, n, .inl (fun _ => 0)))])) (va_Qv (fun _ : Unit => True) (fun _ t => va_P (dC, dI) vwCl [(h0, .inl (k0, n, .inl (fun _ => 0)))] t.heap ∧ va_K (dC, dI) vwCl [] t ∧ va_D (va_A [(h0, .inl (k0, n, .inl (fun _ => 0)))] sz) [(h0, .inl (k0, n, .inl (fun _ => 0)))]) (va_A [(h0, .inl (k0, n, .inl (fun _ => 0)))] sz)) 0 0 (va_A [(h0, .inl (k0, n, .inl (fun _ => 0)))] sz) := by
  refine Met.ofW (cc := cJ7_fill_53178) (maxL := 4) (ret := none) (by decide) rfl ?_
  intro p e s m args below meth c s₁ B hml hv
  obtain ⟨rfl, hsz, hP, hK, hD0⟩ := hv
  have hx := B.exec
  have hb := B.bytes
  have hr := B.returns
  subst hsz
  have hD := hD0.self (sz := s.heap.size)
  generalize hAe : va_A [(h0, .inl (k0, n, .inl (fun _ => 0)))] s.heap.size = A at hD ⊢
  have hS : va_S A s.heap s.heap [] := va_S.rf
  have hP : va_P (dC, dI) vwCl [(h0, .inl (k0, n, .inl (fun _ => 0)))] s.heap := hP
  have hl := lv_entry ([.ref h0, .int 0]) (n := 4) (Nat.le_of_ble_eq_true rfl)
  rw [lg_entry_eq]
  generalize (lg_sl ([.ref h0, .int 0]) ++ List.replicate (4 - (lg_sl ([.ref h0, .int 0])).length) Slot.unset).toArray = ls at hl ⊢
  have hl : lv_has ls 4 [(0, .ref h0), (1, .int 0)] := hl
  refine lv_iconst (v := 0) hx hb dJ7_fill_53178_0 (by decide) ?_
  refine lv_istore_n (lv' := [(2, .int 0), (0, .ref h0), (1, .int 0)]) hx hb dJ7_fill_53178_1 rfl hl (by decide) rfl (fun ls hl => ?_)
  refine lv_aload_n hx hb dJ7_fill_53178_2 rfl (lv_at hl 1 rfl) ?_
  refine va_alen hx hb hK hP 0 0 rfl rfl (v := nI n) rfl dJ7_fill_53178_3 ?_
  refine lv_istore_n (lv' := [(3, .int (nI n)), (2, .int 0), (0, .ref h0), (1, .int 0)]) hx hb dJ7_fill_53178_4 rfl hl (by decide) rfl (fun ls hl => ?_)
  refine fill_loop hn hx hb hK hD (fun H locs ls hP hS => ?_) (n + 1) 0 s.heap [] ls (Nat.zero_le n) (by omega) hP hS (lv_sub hl [1, 0, 2, 3] rfl)
  have hK9 := hK.sub (tys' := []) [] rfl
  exact W.vret hx hb hr (fun t ht hW => ⟨⟨(), rfl, trivial, by rw [ht]; exact hP, va_K.moved hW.alike hK9, hD⟩, hS.F ht⟩) hS.2.2 dJ7_fill_53178_20
end
