section
-- ===== PART A: goes FIRST, ahead of the names: the tables' words, and 'selects' of the private methods out of them =====
/-- a private method of a class that the tables say can be made, by its rows of tables_1 -/
def lw_okq (q : MethodName × Nat) : Prop := (q.1.cls ≠ "java/lang/invoke/MethodHandle" ∧ q.1.cls ≠ "java/lang/invoke/VarHandle") ∧ Cond.instantiable q.1.cls q.2 ∈ tables_1 ∧ Cond.privateMethod q.1 ∈ tables_1 ∧ Cond.instanceMethod q.1 ∈ tables_1
theorem lw_p0 : lw_okq (⟨"SpringOaths$Tape", "skipBlanks", "()V"⟩, 4) := ⟨⟨by decide +kernel, by decide +kernel⟩, List.mem_of_getElem? (i := 88) (by decide +kernel), List.mem_of_getElem? (i := 201) (by decide +kernel), List.mem_of_getElem? (i := 202) (by decide +kernel)⟩
theorem lw_p1 : lw_okq (⟨"SpringOaths$Tape", "readSentence", "(LSpringOaths$Moor;)V"⟩, 4) := ⟨⟨by decide +kernel, by decide +kernel⟩, List.mem_of_getElem? (i := 88) (by decide +kernel), List.mem_of_getElem? (i := 205) (by decide +kernel), List.mem_of_getElem? (i := 206) (by decide +kernel)⟩
theorem lw_p2 : lw_okq (⟨"SpringOaths$Tape", "kindHere", "()I"⟩, 4) := ⟨⟨by decide +kernel, by decide +kernel⟩, List.mem_of_getElem? (i := 88) (by decide +kernel), List.mem_of_getElem? (i := 209) (by decide +kernel), List.mem_of_getElem? (i := 210) (by decide +kernel)⟩
theorem lw_p3 : lw_okq (⟨"SpringOaths$Tape", "isHere", "(Ljava/lang/String;)Z"⟩, 4) := ⟨⟨by decide +kernel, by decide +kernel⟩, List.mem_of_getElem? (i := 88) (by decide +kernel), List.mem_of_getElem? (i := 222) (by decide +kernel), List.mem_of_getElem? (i := 223) (by decide +kernel)⟩
theorem lw_p4 : lw_okq (⟨"SpringOaths$Tape", "isLetter", "(I)Z"⟩, 4) := ⟨⟨by decide +kernel, by decide +kernel⟩, List.mem_of_getElem? (i := 88) (by decide +kernel), List.mem_of_getElem? (i := 236) (by decide +kernel), List.mem_of_getElem? (i := 237) (by decide +kernel)⟩
theorem lw_p5 : lw_okq (⟨"SpringOaths$Tape", "lawHere", "()I"⟩, 4) := ⟨⟨by decide +kernel, by decide +kernel⟩, List.mem_of_getElem? (i := 88) (by decide +kernel), List.mem_of_getElem? (i := 278) (by decide +kernel), List.mem_of_getElem? (i := 279) (by decide +kernel)⟩
theorem lw_p6 : lw_okq (⟨"SpringOaths$Tape", "readPerson", "(LSpringOaths$Moor;I)V"⟩, 4) := ⟨⟨by decide +kernel, by decide +kernel⟩, List.mem_of_getElem? (i := 88) (by decide +kernel), List.mem_of_getElem? (i := 289) (by decide +kernel), List.mem_of_getElem? (i := 290) (by decide +kernel)⟩
theorem lw_p7 : lw_okq (⟨"SpringOaths$Tape", "refuse", "(I)V"⟩, 4) := ⟨⟨by decide +kernel, by decide +kernel⟩, List.mem_of_getElem? (i := 88) (by decide +kernel), List.mem_of_getElem? (i := 293) (by decide +kernel), List.mem_of_getElem? (i := 294) (by decide +kernel)⟩
theorem lw_p8 : lw_okq (⟨"SpringOaths$Tape", "readName", "(Ljava/lang/String;)V"⟩, 4) := ⟨⟨by decide +kernel, by decide +kernel⟩, List.mem_of_getElem? (i := 88) (by decide +kernel), List.mem_of_getElem? (i := 297) (by decide +kernel), List.mem_of_getElem? (i := 298) (by decide +kernel)⟩
theorem lw_p9 : lw_okq (⟨"SpringOaths$Tape", "readNumber", "(I)I"⟩, 4) := ⟨⟨by decide +kernel, by decide +kernel⟩, List.mem_of_getElem? (i := 88) (by decide +kernel), List.mem_of_getElem? (i := 302) (by decide +kernel), List.mem_of_getElem? (i := 303) (by decide +kernel)⟩
theorem lw_p10 : lw_okq (⟨"SpringOaths$Tape", "isDigit", "(I)Z"⟩, 4) := ⟨⟨by decide +kernel, by decide +kernel⟩, List.mem_of_getElem? (i := 88) (by decide +kernel), List.mem_of_getElem? (i := 306) (by decide +kernel), List.mem_of_getElem? (i := 307) (by decide +kernel)⟩
theorem lw_p11 : lw_okq (⟨"SpringOaths$Tape", "readCell", "()I"⟩, 4) := ⟨⟨by decide +kernel, by decide +kernel⟩, List.mem_of_getElem? (i := 88) (by decide +kernel), List.mem_of_getElem? (i := 320) (by decide +kernel), List.mem_of_getElem? (i := 321) (by decide +kernel)⟩
theorem lw_p12 : lw_okq (⟨"SpringOaths$Moor", "lowestBeside", "(I)I"⟩, 12) := ⟨⟨by decide +kernel, by decide +kernel⟩, List.mem_of_getElem? (i := 23) (by decide +kernel), List.mem_of_getElem? (i := 329) (by decide +kernel), List.mem_of_getElem? (i := 330) (by decide +kernel)⟩
theorem lw_p13 : lw_okq (⟨"SpringOaths$Moor", "lower", "(II)I"⟩, 12) := ⟨⟨by decide +kernel, by decide +kernel⟩, List.mem_of_getElem? (i := 23) (by decide +kernel), List.mem_of_getElem? (i := 333) (by decide +kernel), List.mem_of_getElem? (i := 334) (by decide +kernel)⟩
theorem lw_p14 : lw_okq (⟨"SpringOaths$Tape", "readSign", "(C)V"⟩, 4) := ⟨⟨by decide +kernel, by decide +kernel⟩, List.mem_of_getElem? (i := 88) (by decide +kernel), List.mem_of_getElem? (i := 340) (by decide +kernel), List.mem_of_getElem? (i := 341) (by decide +kernel)⟩
theorem lw_p15 : lw_okq (⟨"SpringOaths", "isPerson", "(I)Z"⟩, 14) := ⟨⟨by decide +kernel, by decide +kernel⟩, List.mem_of_getElem? (i := 15) (by decide +kernel), List.mem_of_getElem? (i := 381) (by decide +kernel), List.mem_of_getElem? (i := 382) (by decide +kernel)⟩
def lw_privs_1 : List (MethodName × Nat) := [(⟨"SpringOaths$Tape", "skipBlanks", "()V"⟩, 4), (⟨"SpringOaths$Tape", "readSentence", "(LSpringOaths$Moor;)V"⟩, 4), (⟨"SpringOaths$Tape", "kindHere", "()I"⟩, 4), (⟨"SpringOaths$Tape", "isHere", "(Ljava/lang/String;)Z"⟩, 4), (⟨"SpringOaths$Tape", "isLetter", "(I)Z"⟩, 4), (⟨"SpringOaths$Tape", "lawHere", "()I"⟩, 4), (⟨"SpringOaths$Tape", "readPerson", "(LSpringOaths$Moor;I)V"⟩, 4), (⟨"SpringOaths$Tape", "refuse", "(I)V"⟩, 4), (⟨"SpringOaths$Tape", "readName", "(Ljava/lang/String;)V"⟩, 4), (⟨"SpringOaths$Tape", "readNumber", "(I)I"⟩, 4), (⟨"SpringOaths$Tape", "isDigit", "(I)Z"⟩, 4), (⟨"SpringOaths$Tape", "readCell", "()I"⟩, 4), (⟨"SpringOaths$Moor", "lowestBeside", "(I)I"⟩, 12), (⟨"SpringOaths$Moor", "lower", "(II)I"⟩, 12), (⟨"SpringOaths$Tape", "readSign", "(C)V"⟩, 4), (⟨"SpringOaths", "isPerson", "(I)Z"⟩, 14)]
theorem lw_r1 : ∀ q ∈ lw_privs_1, lw_okq q := List.forall_mem_cons.mpr ⟨lw_p0, List.forall_mem_cons.mpr ⟨lw_p1, List.forall_mem_cons.mpr ⟨lw_p2, List.forall_mem_cons.mpr ⟨lw_p3, List.forall_mem_cons.mpr ⟨lw_p4, List.forall_mem_cons.mpr ⟨lw_p5, List.forall_mem_cons.mpr ⟨lw_p6, List.forall_mem_cons.mpr ⟨lw_p7, List.forall_mem_cons.mpr ⟨lw_p8, List.forall_mem_cons.mpr ⟨lw_p9, List.forall_mem_cons.mpr ⟨lw_p10, List.forall_mem_cons.mpr ⟨lw_p11, List.forall_mem_cons.mpr ⟨lw_p12, List.forall_mem_cons.mpr ⟨lw_p13, List.forall_mem_cons.mpr ⟨lw_p14, List.forall_mem_cons.mpr ⟨lw_p15, fun _ h => absurd h List.not_mem_nil⟩⟩⟩⟩⟩⟩⟩⟩⟩⟩⟩⟩⟩⟩⟩⟩
theorem lw_p16 : lw_okq (⟨"SpringOaths$Moor", "wellUp", "()V"⟩, 12) := ⟨⟨by decide +kernel, by decide +kernel⟩, List.mem_of_getElem? (i := 23) (by decide +kernel), List.mem_of_getElem? (i := 503) (by decide +kernel), List.mem_of_getElem? (i := 504) (by decide +kernel)⟩
theorem lw_p17 : lw_okq (⟨"SpringOaths$Moor", "pour", "(II)V"⟩, 12) := ⟨⟨by decide +kernel, by decide +kernel⟩, List.mem_of_getElem? (i := 23) (by decide +kernel), List.mem_of_getElem? (i := 507) (by decide +kernel), List.mem_of_getElem? (i := 508) (by decide +kernel)⟩
theorem lw_p18 : lw_okq (⟨"SpringOaths$Moor", "runDown", "()V"⟩, 12) := ⟨⟨by decide +kernel, by decide +kernel⟩, List.mem_of_getElem? (i := 23) (by decide +kernel), List.mem_of_getElem? (i := 512) (by decide +kernel), List.mem_of_getElem? (i := 513) (by decide +kernel)⟩
theorem lw_p19 : lw_okq (⟨"SpringOaths$Moor", "changeMinds", "()V"⟩, 12) := ⟨⟨by decide +kernel, by decide +kernel⟩, List.mem_of_getElem? (i := 23) (by decide +kernel), List.mem_of_getElem? (i := 516) (by decide +kernel), List.mem_of_getElem? (i := 517) (by decide +kernel)⟩
theorem lw_p20 : lw_okq (⟨"SpringOaths$Moor", "draw", "()I"⟩, 12) := ⟨⟨by decide +kernel, by decide +kernel⟩, List.mem_of_getElem? (i := 23) (by decide +kernel), List.mem_of_getElem? (i := 547) (by decide +kernel), List.mem_of_getElem? (i := 548) (by decide +kernel)⟩
theorem lw_p21 : lw_okq (⟨"SpringOaths", "levelWithout", "(III)I"⟩, 14) := ⟨⟨by decide +kernel, by decide +kernel⟩, List.mem_of_getElem? (i := 15) (by decide +kernel), List.mem_of_getElem? (i := 614) (by decide +kernel), List.mem_of_getElem? (i := 615) (by decide +kernel)⟩
theorem lw_p22 : lw_okq (⟨"SpringOaths", "fitsWith", "(IIII)Z"⟩, 14) := ⟨⟨by decide +kernel, by decide +kernel⟩, List.mem_of_getElem? (i := 15) (by decide +kernel), List.mem_of_getElem? (i := 633) (by decide +kernel), List.mem_of_getElem? (i := 634) (by decide +kernel)⟩
theorem lw_p23 : lw_okq (⟨"SpringOaths", "isRowPart", "(II)Z"⟩, 14) := ⟨⟨by decide +kernel, by decide +kernel⟩, List.mem_of_getElem? (i := 15) (by decide +kernel), List.mem_of_getElem? (i := 662) (by decide +kernel), List.mem_of_getElem? (i := 663) (by decide +kernel)⟩
theorem lw_p24 : lw_okq (⟨"SpringOaths", "shelve", "(IIII)I"⟩, 14) := ⟨⟨by decide +kernel, by decide +kernel⟩, List.mem_of_getElem? (i := 15) (by decide +kernel), List.mem_of_getElem? (i := 704) (by decide +kernel), List.mem_of_getElem? (i := 705) (by decide +kernel)⟩
theorem lw_p25 : lw_okq (⟨"SpringOaths", "holdsRow", "(I)Z"⟩, 14) := ⟨⟨by decide +kernel, by decide +kernel⟩, List.mem_of_getElem? (i := 15) (by decide +kernel), List.mem_of_getElem? (i := 712) (by decide +kernel), List.mem_of_getElem? (i := 713) (by decide +kernel)⟩
theorem lw_p26 : lw_okq (⟨"SpringOaths", "holdsPerson", "(I)Z"⟩, 14) := ⟨⟨by decide +kernel, by decide +kernel⟩, List.mem_of_getElem? (i := 15) (by decide +kernel), List.mem_of_getElem? (i := 716) (by decide +kernel), List.mem_of_getElem? (i := 717) (by decide +kernel)⟩
theorem lw_p27 : lw_okq (⟨"SpringOaths$Acting", "own", "(I)I"⟩, 6) := ⟨⟨by decide +kernel, by decide +kernel⟩, List.mem_of_getElem? (i := 113) (by decide +kernel), List.mem_of_getElem? (i := 738) (by decide +kernel), List.mem_of_getElem? (i := 739) (by decide +kernel)⟩
theorem lw_p28 : lw_okq (⟨"SpringOaths$Acting", "run", "(III)I"⟩, 6) := ⟨⟨by decide +kernel, by decide +kernel⟩, List.mem_of_getElem? (i := 113) (by decide +kernel), List.mem_of_getElem? (i := 744) (by decide +kernel), List.mem_of_getElem? (i := 745) (by decide +kernel)⟩
theorem lw_p29 : lw_okq (⟨"SpringOaths$Acting", "note", "(I)V"⟩, 6) := ⟨⟨by decide +kernel, by decide +kernel⟩, List.mem_of_getElem? (i := 113) (by decide +kernel), List.mem_of_getElem? (i := 748) (by decide +kernel), List.mem_of_getElem? (i := 749) (by decide +kernel)⟩
theorem lw_p30 : lw_okq (⟨"SpringOaths$Acting", "part", "(I)I"⟩, 6) := ⟨⟨by decide +kernel, by decide +kernel⟩, List.mem_of_getElem? (i := 113) (by decide +kernel), List.mem_of_getElem? (i := 752) (by decide +kernel), List.mem_of_getElem? (i := 753) (by decide +kernel)⟩
theorem lw_p31 : lw_okq (⟨"SpringOathsModel", "first", "()V"⟩, 26) := ⟨⟨by decide +kernel, by decide +kernel⟩, List.mem_of_getElem? (i := 772) (by decide +kernel), List.mem_of_getElem? (i := 778) (by decide +kernel), List.mem_of_getElem? (i := 779) (by decide +kernel)⟩
def lw_privs_2 : List (MethodName × Nat) := [(⟨"SpringOaths$Moor", "wellUp", "()V"⟩, 12), (⟨"SpringOaths$Moor", "pour", "(II)V"⟩, 12), (⟨"SpringOaths$Moor", "runDown", "()V"⟩, 12), (⟨"SpringOaths$Moor", "changeMinds", "()V"⟩, 12), (⟨"SpringOaths$Moor", "draw", "()I"⟩, 12), (⟨"SpringOaths", "levelWithout", "(III)I"⟩, 14), (⟨"SpringOaths", "fitsWith", "(IIII)Z"⟩, 14), (⟨"SpringOaths", "isRowPart", "(II)Z"⟩, 14), (⟨"SpringOaths", "shelve", "(IIII)I"⟩, 14), (⟨"SpringOaths", "holdsRow", "(I)Z"⟩, 14), (⟨"SpringOaths", "holdsPerson", "(I)Z"⟩, 14), (⟨"SpringOaths$Acting", "own", "(I)I"⟩, 6), (⟨"SpringOaths$Acting", "run", "(III)I"⟩, 6), (⟨"SpringOaths$Acting", "note", "(I)V"⟩, 6), (⟨"SpringOaths$Acting", "part", "(I)I"⟩, 6), (⟨"SpringOathsModel", "first", "()V"⟩, 26)]
theorem lw_r2 : ∀ q ∈ lw_privs_2, lw_okq q := List.forall_mem_cons.mpr ⟨lw_p16, List.forall_mem_cons.mpr ⟨lw_p17, List.forall_mem_cons.mpr ⟨lw_p18, List.forall_mem_cons.mpr ⟨lw_p19, List.forall_mem_cons.mpr ⟨lw_p20, List.forall_mem_cons.mpr ⟨lw_p21, List.forall_mem_cons.mpr ⟨lw_p22, List.forall_mem_cons.mpr ⟨lw_p23, List.forall_mem_cons.mpr ⟨lw_p24, List.forall_mem_cons.mpr ⟨lw_p25, List.forall_mem_cons.mpr ⟨lw_p26, List.forall_mem_cons.mpr ⟨lw_p27, List.forall_mem_cons.mpr ⟨lw_p28, List.forall_mem_cons.mpr ⟨lw_p29, List.forall_mem_cons.mpr ⟨lw_p30, List.forall_mem_cons.mpr ⟨lw_p31, fun _ h => absurd h List.not_mem_nil⟩⟩⟩⟩⟩⟩⟩⟩⟩⟩⟩⟩⟩⟩⟩⟩
theorem lw_p32 : lw_okq (⟨"SpringOathsModel", "comes", "(IIII)I"⟩, 26) := ⟨⟨by decide +kernel, by decide +kernel⟩, List.mem_of_getElem? (i := 772) (by decide +kernel), List.mem_of_getElem? (i := 888) (by decide +kernel), List.mem_of_getElem? (i := 889) (by decide +kernel)⟩
theorem lw_p33 : lw_okq (⟨"SpringOathsModel", "puts", "(III)V"⟩, 26) := ⟨⟨by decide +kernel, by decide +kernel⟩, List.mem_of_getElem? (i := 772) (by decide +kernel), List.mem_of_getElem? (i := 892) (by decide +kernel), List.mem_of_getElem? (i := 893) (by decide +kernel)⟩
theorem lw_p34 : lw_okq (⟨"SpringOathsModel", "isPerson", "(I)Z"⟩, 26) := ⟨⟨by decide +kernel, by decide +kernel⟩, List.mem_of_getElem? (i := 772) (by decide +kernel), List.mem_of_getElem? (i := 900) (by decide +kernel), List.mem_of_getElem? (i := 901) (by decide +kernel)⟩
theorem lw_p35 : lw_okq (⟨"SpringOathsModel", "wells", "(I)I"⟩, 26) := ⟨⟨by decide +kernel, by decide +kernel⟩, List.mem_of_getElem? (i := 772) (by decide +kernel), List.mem_of_getElem? (i := 904) (by decide +kernel), List.mem_of_getElem? (i := 905) (by decide +kernel)⟩
theorem lw_p36 : lw_okq (⟨"SpringOathsModel", "get", "(II)I"⟩, 26) := ⟨⟨by decide +kernel, by decide +kernel⟩, List.mem_of_getElem? (i := 772) (by decide +kernel), List.mem_of_getElem? (i := 908) (by decide +kernel), List.mem_of_getElem? (i := 909) (by decide +kernel)⟩
theorem lw_p37 : lw_okq (⟨"SpringOathsModel", "winsOf", "(I)I"⟩, 26) := ⟨⟨by decide +kernel, by decide +kernel⟩, List.mem_of_getElem? (i := 772) (by decide +kernel), List.mem_of_getElem? (i := 912) (by decide +kernel), List.mem_of_getElem? (i := 913) (by decide +kernel)⟩
theorem lw_p38 : lw_okq (⟨"SpringOathsModel", "foesOf", "(I)I"⟩, 26) := ⟨⟨by decide +kernel, by decide +kernel⟩, List.mem_of_getElem? (i := 772) (by decide +kernel), List.mem_of_getElem? (i := 916) (by decide +kernel), List.mem_of_getElem? (i := 917) (by decide +kernel)⟩
theorem lw_p39 : lw_okq (⟨"SpringOathsModel", "doDisagree", "(II)Z"⟩, 26) := ⟨⟨by decide +kernel, by decide +kernel⟩, List.mem_of_getElem? (i := 772) (by decide +kernel), List.mem_of_getElem? (i := 920) (by decide +kernel), List.mem_of_getElem? (i := 921) (by decide +kernel)⟩
theorem lw_p40 : lw_okq (⟨"SpringOathsModel", "losesOf", "(I)I"⟩, 26) := ⟨⟨by decide +kernel, by decide +kernel⟩, List.mem_of_getElem? (i := 772) (by decide +kernel), List.mem_of_getElem? (i := 928) (by decide +kernel), List.mem_of_getElem? (i := 929) (by decide +kernel)⟩
theorem lw_p41 : lw_okq (⟨"SpringOathsModel", "atCell", "(II)I"⟩, 26) := ⟨⟨by decide +kernel, by decide +kernel⟩, List.mem_of_getElem? (i := 772) (by decide +kernel), List.mem_of_getElem? (i := 949) (by decide +kernel), List.mem_of_getElem? (i := 950) (by decide +kernel)⟩
theorem lw_p42 : lw_okq (⟨"SpringOathsModel", "lowestOf", "(I)I"⟩, 26) := ⟨⟨by decide +kernel, by decide +kernel⟩, List.mem_of_getElem? (i := 772) (by decide +kernel), List.mem_of_getElem? (i := 957) (by decide +kernel), List.mem_of_getElem? (i := 958) (by decide +kernel)⟩
theorem lw_p43 : lw_okq (⟨"SpringOathsModel", "isSuch", "(II)Z"⟩, 26) := ⟨⟨by decide +kernel, by decide +kernel⟩, List.mem_of_getElem? (i := 772) (by decide +kernel), List.mem_of_getElem? (i := 975) (by decide +kernel), List.mem_of_getElem? (i := 976) (by decide +kernel)⟩
theorem lw_p44 : lw_okq (⟨"SpringOathsModel", "isWet", "(I)Z"⟩, 26) := ⟨⟨by decide +kernel, by decide +kernel⟩, List.mem_of_getElem? (i := 772) (by decide +kernel), List.mem_of_getElem? (i := 979) (by decide +kernel), List.mem_of_getElem? (i := 980) (by decide +kernel)⟩
theorem lw_p45 : lw_okq (⟨"SpringOathsModel", "yearsGo", "(I)V"⟩, 26) := ⟨⟨by decide +kernel, by decide +kernel⟩, List.mem_of_getElem? (i := 772) (by decide +kernel), List.mem_of_getElem? (i := 988) (by decide +kernel), List.mem_of_getElem? (i := 989) (by decide +kernel)⟩
theorem lw_p46 : lw_okq (⟨"SpringOathsModel", "yearGoes", "()V"⟩, 26) := ⟨⟨by decide +kernel, by decide +kernel⟩, List.mem_of_getElem? (i := 772) (by decide +kernel), List.mem_of_getElem? (i := 992) (by decide +kernel), List.mem_of_getElem? (i := 993) (by decide +kernel)⟩
theorem lw_p47 : lw_okq (⟨"SpringOathsModel", "comesTo", "(II)V"⟩, 26) := ⟨⟨by decide +kernel, by decide +kernel⟩, List.mem_of_getElem? (i := 772) (by decide +kernel), List.mem_of_getElem? (i := 996) (by decide +kernel), List.mem_of_getElem? (i := 997) (by decide +kernel)⟩
def lw_privs_3 : List (MethodName × Nat) := [(⟨"SpringOathsModel", "comes", "(IIII)I"⟩, 26), (⟨"SpringOathsModel", "puts", "(III)V"⟩, 26), (⟨"SpringOathsModel", "isPerson", "(I)Z"⟩, 26), (⟨"SpringOathsModel", "wells", "(I)I"⟩, 26), (⟨"SpringOathsModel", "get", "(II)I"⟩, 26), (⟨"SpringOathsModel", "winsOf", "(I)I"⟩, 26), (⟨"SpringOathsModel", "foesOf", "(I)I"⟩, 26), (⟨"SpringOathsModel", "doDisagree", "(II)Z"⟩, 26), (⟨"SpringOathsModel", "losesOf", "(I)I"⟩, 26), (⟨"SpringOathsModel", "atCell", "(II)I"⟩, 26), (⟨"SpringOathsModel", "lowestOf", "(I)I"⟩, 26), (⟨"SpringOathsModel", "isSuch", "(II)Z"⟩, 26), (⟨"SpringOathsModel", "isWet", "(I)Z"⟩, 26), (⟨"SpringOathsModel", "yearsGo", "(I)V"⟩, 26), (⟨"SpringOathsModel", "yearGoes", "()V"⟩, 26), (⟨"SpringOathsModel", "comesTo", "(II)V"⟩, 26)]
theorem lw_r3 : ∀ q ∈ lw_privs_3, lw_okq q := List.forall_mem_cons.mpr ⟨lw_p32, List.forall_mem_cons.mpr ⟨lw_p33, List.forall_mem_cons.mpr ⟨lw_p34, List.forall_mem_cons.mpr ⟨lw_p35, List.forall_mem_cons.mpr ⟨lw_p36, List.forall_mem_cons.mpr ⟨lw_p37, List.forall_mem_cons.mpr ⟨lw_p38, List.forall_mem_cons.mpr ⟨lw_p39, List.forall_mem_cons.mpr ⟨lw_p40, List.forall_mem_cons.mpr ⟨lw_p41, List.forall_mem_cons.mpr ⟨lw_p42, List.forall_mem_cons.mpr ⟨lw_p43, List.forall_mem_cons.mpr ⟨lw_p44, List.forall_mem_cons.mpr ⟨lw_p45, List.forall_mem_cons.mpr ⟨lw_p46, List.forall_mem_cons.mpr ⟨lw_p47, fun _ h => absurd h List.not_mem_nil⟩⟩⟩⟩⟩⟩⟩⟩⟩⟩⟩⟩⟩⟩⟩⟩
theorem lw_p48 : lw_okq (⟨"SpringOathsModel", "cellsSuch", "(I)I"⟩, 26) := ⟨⟨by decide +kernel, by decide +kernel⟩, List.mem_of_getElem? (i := 772) (by decide +kernel), List.mem_of_getElem? (i := 1003) (by decide +kernel), List.mem_of_getElem? (i := 1004) (by decide +kernel)⟩
theorem lw_p49 : lw_okq (⟨"SpringOathsModel", "yearByDraws", "()V"⟩, 26) := ⟨⟨by decide +kernel, by decide +kernel⟩, List.mem_of_getElem? (i := 772) (by decide +kernel), List.mem_of_getElem? (i := 1015) (by decide +kernel), List.mem_of_getElem? (i := 1016) (by decide +kernel)⟩
theorem lw_p50 : lw_okq (⟨"SpringOathsModel", "drawn", "()I"⟩, 26) := ⟨⟨by decide +kernel, by decide +kernel⟩, List.mem_of_getElem? (i := 772) (by decide +kernel), List.mem_of_getElem? (i := 1019) (by decide +kernel), List.mem_of_getElem? (i := 1020) (by decide +kernel)⟩
theorem lw_p51 : lw_okq (⟨"SpringOathsModel", "lost", "()I"⟩, 26) := ⟨⟨by decide +kernel, by decide +kernel⟩, List.mem_of_getElem? (i := 772) (by decide +kernel), List.mem_of_getElem? (i := 1024) (by decide +kernel), List.mem_of_getElem? (i := 1025) (by decide +kernel)⟩
theorem lw_p52 : lw_okq (⟨"SpringOathsModel", "keepAside", "()V"⟩, 26) := ⟨⟨by decide +kernel, by decide +kernel⟩, List.mem_of_getElem? (i := 772) (by decide +kernel), List.mem_of_getElem? (i := 1036) (by decide +kernel), List.mem_of_getElem? (i := 1037) (by decide +kernel)⟩
theorem lw_p53 : lw_okq (⟨"SpringOathsModel", "putBack", "()V"⟩, 26) := ⟨⟨by decide +kernel, by decide +kernel⟩, List.mem_of_getElem? (i := 772) (by decide +kernel), List.mem_of_getElem? (i := 1040) (by decide +kernel), List.mem_of_getElem? (i := 1041) (by decide +kernel)⟩
theorem lw_p54 : lw_okq (⟨"SpringOathsModel", "levelWith", "(IIII)I"⟩, 26) := ⟨⟨by decide +kernel, by decide +kernel⟩, List.mem_of_getElem? (i := 772) (by decide +kernel), List.mem_of_getElem? (i := 1052) (by decide +kernel), List.mem_of_getElem? (i := 1053) (by decide +kernel)⟩
theorem lw_p55 : lw_okq (⟨"SpringOathsModel", "whenFirst", "(II)I"⟩, 26) := ⟨⟨by decide +kernel, by decide +kernel⟩, List.mem_of_getElem? (i := 772) (by decide +kernel), List.mem_of_getElem? (i := 1060) (by decide +kernel), List.mem_of_getElem? (i := 1061) (by decide +kernel)⟩
theorem lw_p56 : lw_okq (⟨"SpringOathsModel", "isDrowned", "()Z"⟩, 26) := ⟨⟨by decide +kernel, by decide +kernel⟩, List.mem_of_getElem? (i := 772) (by decide +kernel), List.mem_of_getElem? (i := 1064) (by decide +kernel), List.mem_of_getElem? (i := 1065) (by decide +kernel)⟩
theorem lw_p57 : lw_okq (⟨"SpringOathsModel", "isAsk", "(III)Z"⟩, 26) := ⟨⟨by decide +kernel, by decide +kernel⟩, List.mem_of_getElem? (i := 772) (by decide +kernel), List.mem_of_getElem? (i := 1080) (by decide +kernel), List.mem_of_getElem? (i := 1081) (by decide +kernel)⟩
theorem lw_p58 : lw_okq (⟨"SpringOathsModel", "mostBy", "(IIII)I"⟩, 26) := ⟨⟨by decide +kernel, by decide +kernel⟩, List.mem_of_getElem? (i := 772) (by decide +kernel), List.mem_of_getElem? (i := 1085) (by decide +kernel), List.mem_of_getElem? (i := 1086) (by decide +kernel)⟩
theorem lw_p59 : lw_okq (⟨"SpringOathsModel", "levelWithout", "(III)I"⟩, 26) := ⟨⟨by decide +kernel, by decide +kernel⟩, List.mem_of_getElem? (i := 772) (by decide +kernel), List.mem_of_getElem? (i := 1101) (by decide +kernel), List.mem_of_getElem? (i := 1102) (by decide +kernel)⟩
theorem lw_p60 : lw_okq (⟨"SpringOathsModel", "isTold", "(IIII)Z"⟩, 26) := ⟨⟨by decide +kernel, by decide +kernel⟩, List.mem_of_getElem? (i := 772) (by decide +kernel), List.mem_of_getElem? (i := 1120) (by decide +kernel), List.mem_of_getElem? (i := 1121) (by decide +kernel)⟩
theorem lw_p61 : lw_okq (⟨"SpringOathsModel", "readsAll", "(Z)Z"⟩, 26) := ⟨⟨by decide +kernel, by decide +kernel⟩, List.mem_of_getElem? (i := 772) (by decide +kernel), List.mem_of_getElem? (i := 1149) (by decide +kernel), List.mem_of_getElem? (i := 1150) (by decide +kernel)⟩
theorem lw_p62 : lw_okq (⟨"SpringOathsModel", "next", "()V"⟩, 26) := ⟨⟨by decide +kernel, by decide +kernel⟩, List.mem_of_getElem? (i := 772) (by decide +kernel), List.mem_of_getElem? (i := 1153) (by decide +kernel), List.mem_of_getElem? (i := 1154) (by decide +kernel)⟩
theorem lw_p63 : lw_okq (⟨"SpringOathsModel", "isRow", "(CC)Z"⟩, 26) := ⟨⟨by decide +kernel, by decide +kernel⟩, List.mem_of_getElem? (i := 772) (by decide +kernel), List.mem_of_getElem? (i := 1157) (by decide +kernel), List.mem_of_getElem? (i := 1158) (by decide +kernel)⟩
def lw_privs_4 : List (MethodName × Nat) := [(⟨"SpringOathsModel", "cellsSuch", "(I)I"⟩, 26), (⟨"SpringOathsModel", "yearByDraws", "()V"⟩, 26), (⟨"SpringOathsModel", "drawn", "()I"⟩, 26), (⟨"SpringOathsModel", "lost", "()I"⟩, 26), (⟨"SpringOathsModel", "keepAside", "()V"⟩, 26), (⟨"SpringOathsModel", "putBack", "()V"⟩, 26), (⟨"SpringOathsModel", "levelWith", "(IIII)I"⟩, 26), (⟨"SpringOathsModel", "whenFirst", "(II)I"⟩, 26), (⟨"SpringOathsModel", "isDrowned", "()Z"⟩, 26), (⟨"SpringOathsModel", "isAsk", "(III)Z"⟩, 26), (⟨"SpringOathsModel", "mostBy", "(IIII)I"⟩, 26), (⟨"SpringOathsModel", "levelWithout", "(III)I"⟩, 26), (⟨"SpringOathsModel", "isTold", "(IIII)Z"⟩, 26), (⟨"SpringOathsModel", "readsAll", "(Z)Z"⟩, 26), (⟨"SpringOathsModel", "next", "()V"⟩, 26), (⟨"SpringOathsModel", "isRow", "(CC)Z"⟩, 26)]
theorem lw_r4 : ∀ q ∈ lw_privs_4, lw_okq q := List.forall_mem_cons.mpr ⟨lw_p48, List.forall_mem_cons.mpr ⟨lw_p49, List.forall_mem_cons.mpr ⟨lw_p50, List.forall_mem_cons.mpr ⟨lw_p51, List.forall_mem_cons.mpr ⟨lw_p52, List.forall_mem_cons.mpr ⟨lw_p53, List.forall_mem_cons.mpr ⟨lw_p54, List.forall_mem_cons.mpr ⟨lw_p55, List.forall_mem_cons.mpr ⟨lw_p56, List.forall_mem_cons.mpr ⟨lw_p57, List.forall_mem_cons.mpr ⟨lw_p58, List.forall_mem_cons.mpr ⟨lw_p59, List.forall_mem_cons.mpr ⟨lw_p60, List.forall_mem_cons.mpr ⟨lw_p61, List.forall_mem_cons.mpr ⟨lw_p62, List.forall_mem_cons.mpr ⟨lw_p63, fun _ h => absurd h List.not_mem_nil⟩⟩⟩⟩⟩⟩⟩⟩⟩⟩⟩⟩⟩⟩⟩⟩
theorem lw_p64 : lw_okq (⟨"SpringOathsModel", "wordThere", "()I"⟩, 26) := ⟨⟨by decide +kernel, by decide +kernel⟩, List.mem_of_getElem? (i := 772) (by decide +kernel), List.mem_of_getElem? (i := 1161) (by decide +kernel), List.mem_of_getElem? (i := 1162) (by decide +kernel)⟩
theorem lw_p65 : lw_okq (⟨"SpringOathsModel", "readsPerson", "(IIZ)Z"⟩, 26) := ⟨⟨by decide +kernel, by decide +kernel⟩, List.mem_of_getElem? (i := 772) (by decide +kernel), List.mem_of_getElem? (i := 1165) (by decide +kernel), List.mem_of_getElem? (i := 1166) (by decide +kernel)⟩
theorem lw_p66 : lw_okq (⟨"SpringOathsModel", "readsWord", "(I)Z"⟩, 26) := ⟨⟨by decide +kernel, by decide +kernel⟩, List.mem_of_getElem? (i := 772) (by decide +kernel), List.mem_of_getElem? (i := 1169) (by decide +kernel), List.mem_of_getElem? (i := 1170) (by decide +kernel)⟩
theorem lw_p67 : lw_okq (⟨"SpringOathsModel", "isWord", "(I)Z"⟩, 26) := ⟨⟨by decide +kernel, by decide +kernel⟩, List.mem_of_getElem? (i := 772) (by decide +kernel), List.mem_of_getElem? (i := 1173) (by decide +kernel), List.mem_of_getElem? (i := 1174) (by decide +kernel)⟩
theorem lw_p68 : lw_okq (⟨"SpringOathsModel", "reads", "(I)Z"⟩, 26) := ⟨⟨by decide +kernel, by decide +kernel⟩, List.mem_of_getElem? (i := 772) (by decide +kernel), List.mem_of_getElem? (i := 1177) (by decide +kernel), List.mem_of_getElem? (i := 1178) (by decide +kernel)⟩
theorem lw_p69 : lw_okq (⟨"SpringOathsModel", "readsCell", "(IZ)Z"⟩, 26) := ⟨⟨by decide +kernel, by decide +kernel⟩, List.mem_of_getElem? (i := 772) (by decide +kernel), List.mem_of_getElem? (i := 1183) (by decide +kernel), List.mem_of_getElem? (i := 1184) (by decide +kernel)⟩
theorem lw_p70 : lw_okq (⟨"SpringOathsModel", "readsLaw", "(IZ)Z"⟩, 26) := ⟨⟨by decide +kernel, by decide +kernel⟩, List.mem_of_getElem? (i := 772) (by decide +kernel), List.mem_of_getElem? (i := 1187) (by decide +kernel), List.mem_of_getElem? (i := 1188) (by decide +kernel)⟩
theorem lw_p71 : lw_okq (⟨"SpringOathsModel", "mustBe", "(II)I"⟩, 26) := ⟨⟨by decide +kernel, by decide +kernel⟩, List.mem_of_getElem? (i := 772) (by decide +kernel), List.mem_of_getElem? (i := 1195) (by decide +kernel), List.mem_of_getElem? (i := 1196) (by decide +kernel)⟩
theorem lw_p72 : lw_okq (⟨"SpringOathsModel", "holdsNothing", "(I)Z"⟩, 26) := ⟨⟨by decide +kernel, by decide +kernel⟩, List.mem_of_getElem? (i := 772) (by decide +kernel), List.mem_of_getElem? (i := 1236) (by decide +kernel), List.mem_of_getElem? (i := 1237) (by decide +kernel)⟩
theorem lw_p73 : lw_okq (⟨"SpringOathsModel", "swearsBy", "(II)I"⟩, 26) := ⟨⟨by decide +kernel, by decide +kernel⟩, List.mem_of_getElem? (i := 772) (by decide +kernel), List.mem_of_getElem? (i := 1247) (by decide +kernel), List.mem_of_getElem? (i := 1248) (by decide +kernel)⟩
theorem lw_p74 : lw_okq (⟨"SpringOathsModel", "ran", "(I)V"⟩, 26) := ⟨⟨by decide +kernel, by decide +kernel⟩, List.mem_of_getElem? (i := 772) (by decide +kernel), List.mem_of_getElem? (i := 1251) (by decide +kernel), List.mem_of_getElem? (i := 1252) (by decide +kernel)⟩
theorem lw_p75 : lw_okq (⟨"SpringOathsModel", "doubtsBy", "(II)I"⟩, 26) := ⟨⟨by decide +kernel, by decide +kernel⟩, List.mem_of_getElem? (i := 772) (by decide +kernel), List.mem_of_getElem? (i := 1255) (by decide +kernel), List.mem_of_getElem? (i := 1256) (by decide +kernel)⟩
theorem lw_p76 : lw_okq (⟨"SpringOathsModel", "partsBy", "(II)I"⟩, 26) := ⟨⟨by decide +kernel, by decide +kernel⟩, List.mem_of_getElem? (i := 772) (by decide +kernel), List.mem_of_getElem? (i := 1259) (by decide +kernel), List.mem_of_getElem? (i := 1260) (by decide +kernel)⟩
theorem lw_p77 : lw_okq (⟨"SpringOathsModel", "signsBy", "(II)I"⟩, 26) := ⟨⟨by decide +kernel, by decide +kernel⟩, List.mem_of_getElem? (i := 772) (by decide +kernel), List.mem_of_getElem? (i := 1263) (by decide +kernel), List.mem_of_getElem? (i := 1264) (by decide +kernel)⟩
def lw_privs_5 : List (MethodName × Nat) := [(⟨"SpringOathsModel", "wordThere", "()I"⟩, 26), (⟨"SpringOathsModel", "readsPerson", "(IIZ)Z"⟩, 26), (⟨"SpringOathsModel", "readsWord", "(I)Z"⟩, 26), (⟨"SpringOathsModel", "isWord", "(I)Z"⟩, 26), (⟨"SpringOathsModel", "reads", "(I)Z"⟩, 26), (⟨"SpringOathsModel", "readsCell", "(IZ)Z"⟩, 26), (⟨"SpringOathsModel", "readsLaw", "(IZ)Z"⟩, 26), (⟨"SpringOathsModel", "mustBe", "(II)I"⟩, 26), (⟨"SpringOathsModel", "holdsNothing", "(I)Z"⟩, 26), (⟨"SpringOathsModel", "swearsBy", "(II)I"⟩, 26), (⟨"SpringOathsModel", "ran", "(I)V"⟩, 26), (⟨"SpringOathsModel", "doubtsBy", "(II)I"⟩, 26), (⟨"SpringOathsModel", "partsBy", "(II)I"⟩, 26), (⟨"SpringOathsModel", "signsBy", "(II)I"⟩, 26)]
theorem lw_r5 : ∀ q ∈ lw_privs_5, lw_okq q := List.forall_mem_cons.mpr ⟨lw_p64, List.forall_mem_cons.mpr ⟨lw_p65, List.forall_mem_cons.mpr ⟨lw_p66, List.forall_mem_cons.mpr ⟨lw_p67, List.forall_mem_cons.mpr ⟨lw_p68, List.forall_mem_cons.mpr ⟨lw_p69, List.forall_mem_cons.mpr ⟨lw_p70, List.forall_mem_cons.mpr ⟨lw_p71, List.forall_mem_cons.mpr ⟨lw_p72, List.forall_mem_cons.mpr ⟨lw_p73, List.forall_mem_cons.mpr ⟨lw_p74, List.forall_mem_cons.mpr ⟨lw_p75, List.forall_mem_cons.mpr ⟨lw_p76, List.forall_mem_cons.mpr ⟨lw_p77, fun _ h => absurd h List.not_mem_nil⟩⟩⟩⟩⟩⟩⟩⟩⟩⟩⟩⟩⟩⟩
def lw_privs : List (MethodName × Nat) := lw_privs_1 ++ (lw_privs_2 ++ (lw_privs_3 ++ (lw_privs_4 ++ (lw_privs_5))))
def lw_tbl : List Cond := k2_sels lw_privs ++ tables_1
theorem lw_privs_ok : ∀ q ∈ lw_privs, lw_okq q := by
  show ∀ q ∈ lw_privs_1 ++ (lw_privs_2 ++ (lw_privs_3 ++ (lw_privs_4 ++ (lw_privs_5)))), lw_okq q
  exact List.forall_mem_append.mpr ⟨lw_r1, List.forall_mem_append.mpr ⟨lw_r2, List.forall_mem_append.mpr ⟨lw_r3, List.forall_mem_append.mpr ⟨lw_r4, lw_r5⟩⟩⟩⟩
end
section
def RX0 : String := "SpringOaths$Acting"
def TX0 : u_T := fun k => match k with
  | 0 => ("SpringOaths$Acting", "bodies", "[I", true)
  | 1 => ("SpringOaths$Acting", "count", "I", false)
  | 2 => ("SpringOaths$Acting", "number", "I", false)
  | 3 => ("SpringOaths$Acting", "kind", "I", false)
  | 4 => ("SpringOaths$Acting", "sense", "I", false)
  | _ => ("SpringOaths$Acting", "parted", "Z", false)
def tyX0 : Nat → FieldType := fun k => match k with
  | 0 => .array .int
  | 1 => .int
  | 2 => .int
  | 3 => .int
  | 4 => .int
  | _ => .boolean
abbrev wsX00 : List Cond := u_ws RX0 TX0 6
theorem nmX0 : ∀ a, a < 6 → ∀ b, b < 6 → a ≠ b → (TX0 a).2.1 ≠ (TX0 b).2.1 := by decide +kernel
theorem tyX0_ok : ∀ k, k < 6 → parseFieldDescriptor (TX0 k).2.2.1 = some (tyX0 k) := by decide +kernel
abbrev cX0_init : ByteArray := prog_2_method_1_code
def yX0_init : MethodName := ⟨RX0, "<init>", "()V"⟩
abbrev cX0_perform : ByteArray := prog_2_method_2_code
def yX0_perform : MethodName := ⟨RX0, "perform", "(IIIII)I"⟩
abbrev cX0_own : ByteArray := prog_2_method_3_code
def yX0_own : MethodName := ⟨RX0, "own", "(I)I"⟩
abbrev cX0_run : ByteArray := prog_2_method_4_code
def yX0_run : MethodName := ⟨RX0, "run", "(III)I"⟩
abbrev cX0_part : ByteArray := prog_2_method_5_code
def yX0_part : MethodName := ⟨RX0, "part", "(I)I"⟩
abbrev cX0_forget : ByteArray := prog_2_method_6_code
def yX0_forget : MethodName := ⟨RX0, "forget", "()V"⟩
abbrev cX0_note : ByteArray := prog_2_method_7_code
def yX0_note : MethodName := ⟨RX0, "note", "(I)V"⟩
def RX1 : String := "SpringOaths$Moor"
def TX1 : u_T := fun k => match k with
  | 0 => ("SpringOaths$Moor", "laws", "[I", true)
  | 1 => ("SpringOaths$Moor", "year", "I", false)
  | 2 => ("SpringOaths$Moor", "z", "I", false)
  | 3 => ("SpringOaths$Moor", "heights", "[I", true)
  | 4 => ("SpringOaths$Moor", "waters", "[I", true)
  | 5 => ("SpringOaths$Moor", "lowests", "[I", true)
  | 6 => ("SpringOaths$Moor", "count", "I", false)
  | 7 => ("SpringOaths$Moor", "kinds", "[I", true)
  | 8 => ("SpringOaths$Moor", "senses", "[I", true)
  | 9 => ("SpringOaths$Moor", "sures", "[I", true)
  | 10 => ("SpringOaths$Moor", "ats", "[I", true)
  | _ => ("SpringOaths$Moor", "idle", "I", false)
def tyX1 : Nat → FieldType := fun k => match k with
  | 0 => .array .int
  | 1 => .int
  | 2 => .int
  | 3 => .array .int
  | 4 => .array .int
  | 5 => .array .int
  | 6 => .int
  | 7 => .array .int
  | 8 => .array .int
  | 9 => .array .int
  | 10 => .array .int
  | _ => .int
abbrev wsX10 : List Cond := u_ws RX1 TX1 12
theorem nmX1 : ∀ a, a < 12 → ∀ b, b < 12 → a ≠ b → (TX1 a).2.1 ≠ (TX1 b).2.1 := by decide +kernel
theorem tyX1_ok : ∀ k, k < 12 → parseFieldDescriptor (TX1 k).2.2.1 = some (tyX1 k) := by decide +kernel
abbrev cX1_init : ByteArray := prog_3_method_1_code
def yX1_init : MethodName := ⟨RX1, "<init>", "()V"⟩
abbrev cX1_clear : ByteArray := prog_3_method_2_code
def yX1_clear : MethodName := ⟨RX1, "clear", "()V"⟩
abbrev cX1_become : ByteArray := prog_3_method_3_code
def yX1_become : MethodName := ⟨RX1, "become", "(LSpringOaths$Moor;)V"⟩
abbrev cX1_comes : ByteArray := prog_3_method_4_code
def yX1_comes : MethodName := ⟨RX1, "comes", "(IIII)I"⟩
abbrev cX1_raise : ByteArray := prog_3_method_5_code
def yX1_raise : MethodName := ⟨RX1, "raise", "(II)V"⟩
abbrev cX1_lowestBeside : ByteArray := prog_3_method_6_code
def yX1_lowestBeside : MethodName := ⟨RX1, "lowestBeside", "(I)I"⟩
abbrev cX1_lower : ByteArray := prog_3_method_7_code
def yX1_lower : MethodName := ⟨RX1, "lower", "(II)I"⟩
abbrev cX1_isWet : ByteArray := prog_3_method_8_code
def yX1_isWet : MethodName := ⟨RX1, "isWet", "(I)Z"⟩
abbrev cX1_isLost : ByteArray := prog_3_method_9_code
def yX1_isLost : MethodName := ⟨RX1, "isLost", "(I)Z"⟩
abbrev cX1_isIdle : ByteArray := prog_3_method_10_code
def yX1_isIdle : MethodName := ⟨RX1, "isIdle", "(I)Z"⟩
abbrev cX1_disagree : ByteArray := prog_3_method_11_code
def yX1_disagree : MethodName := ⟨RX1, "disagree", "(II)Z"⟩
abbrev cX1_welling : ByteArray := prog_3_method_12_code
def yX1_welling : MethodName := ⟨RX1, "welling", "(I)I"⟩
abbrev cX1_losing : ByteArray := prog_3_method_13_code
def yX1_losing : MethodName := ⟨RX1, "losing", "(I)I"⟩
abbrev cX1_winning : ByteArray := prog_3_method_14_code
def yX1_winning : MethodName := ⟨RX1, "winning", "(I)I"⟩
abbrev cX1_opponents : ByteArray := prog_3_method_15_code
def yX1_opponents : MethodName := ⟨RX1, "opponents", "(I)I"⟩
abbrev cX1_peopleAt : ByteArray := prog_3_method_16_code
def yX1_peopleAt : MethodName := ⟨RX1, "peopleAt", "(I)I"⟩
abbrev cX1_wellingAt : ByteArray := prog_3_method_17_code
def yX1_wellingAt : MethodName := ⟨RX1, "wellingAt", "(I)I"⟩
abbrev cX1_disputesAt : ByteArray := prog_3_method_18_code
def yX1_disputesAt : MethodName := ⟨RX1, "disputesAt", "(I)I"⟩
abbrev cX1_disputes : ByteArray := prog_3_method_19_code
def yX1_disputes : MethodName := ⟨RX1, "disputes", "()I"⟩
abbrev cX1_lostPeople : ByteArray := prog_3_method_20_code
def yX1_lostPeople : MethodName := ⟨RX1, "lostPeople", "()I"⟩
abbrev cX1_allSure : ByteArray := prog_3_method_21_code
def yX1_allSure : MethodName := ⟨RX1, "allSure", "()I"⟩
abbrev cX1_allWater : ByteArray := prog_3_method_22_code
def yX1_allWater : MethodName := ⟨RX1, "allWater", "()I"⟩
abbrev cX1_wetCells : ByteArray := prog_3_method_23_code
def yX1_wetCells : MethodName := ⟨RX1, "wetCells", "()J"⟩
abbrev cX1_trodCells : ByteArray := prog_3_method_24_code
def yX1_trodCells : MethodName := ⟨RX1, "trodCells", "()J"⟩
abbrev cX1_hollows : ByteArray := prog_3_method_25_code
def yX1_hollows : MethodName := ⟨RX1, "hollows", "()J"⟩
abbrev cX1_partOfRow : ByteArray := prog_3_method_26_code
def yX1_partOfRow : MethodName := ⟨RX1, "partOfRow", "(II)I"⟩
abbrev cX1_passYears : ByteArray := prog_3_method_27_code
def yX1_passYears : MethodName := ⟨RX1, "passYears", "(I)V"⟩
abbrev cX1_passYear : ByteArray := prog_3_method_28_code
def yX1_passYear : MethodName := ⟨RX1, "passYear", "()V"⟩
abbrev cX1_passYearByDraws : ByteArray := prog_3_method_29_code
def yX1_passYearByDraws : MethodName := ⟨RX1, "passYearByDraws", "()V"⟩
abbrev cX1_draw : ByteArray := prog_3_method_30_code
def yX1_draw : MethodName := ⟨RX1, "draw", "()I"⟩
abbrev cX1_pour : ByteArray := prog_3_method_31_code
def yX1_pour : MethodName := ⟨RX1, "pour", "(II)V"⟩
abbrev cX1_wellUp : ByteArray := prog_3_method_32_code
def yX1_wellUp : MethodName := ⟨RX1, "wellUp", "()V"⟩
abbrev cX1_runDown : ByteArray := prog_3_method_33_code
def yX1_runDown : MethodName := ⟨RX1, "runDown", "()V"⟩
abbrev cX1_changeMinds : ByteArray := prog_3_method_34_code
def yX1_changeMinds : MethodName := ⟨RX1, "changeMinds", "()V"⟩
def RX2 : String := "SpringOaths$Tape"
def TX2 : u_T := fun k => match k with
  | 0 => ("SpringOaths$Tape", "bytes", "[B", true)
  | 1 => ("SpringOaths$Tape", "length", "I", false)
  | 2 => ("SpringOaths$Tape", "place", "I", false)
  | _ => ("SpringOaths$Tape", "fault", "I", false)
def tyX2 : Nat → FieldType := fun k => match k with
  | 0 => .array .byte
  | 1 => .int
  | 2 => .int
  | _ => .int
abbrev wsX20 : List Cond := u_ws RX2 TX2 4
theorem nmX2 : ∀ a, a < 4 → ∀ b, b < 4 → a ≠ b → (TX2 a).2.1 ≠ (TX2 b).2.1 := by decide +kernel
theorem tyX2_ok : ∀ k, k < 4 → parseFieldDescriptor (TX2 k).2.2.1 = some (tyX2 k) := by decide +kernel
abbrev cX2_init : ByteArray := prog_4_method_1_code
def yX2_init : MethodName := ⟨RX2, "<init>", "()V"⟩
abbrev cX2_takes : ByteArray := prog_4_method_2_code
def yX2_takes : MethodName := ⟨RX2, "takes", "(JI)Z"⟩
abbrev cX2_readInto : ByteArray := prog_4_method_3_code
def yX2_readInto : MethodName := ⟨RX2, "readInto", "(LSpringOaths$Moor;)I"⟩
abbrev cX2_readSentence : ByteArray := prog_4_method_4_code
def yX2_readSentence : MethodName := ⟨RX2, "readSentence", "(LSpringOaths$Moor;)V"⟩
abbrev cX2_readPerson : ByteArray := prog_4_method_5_code
def yX2_readPerson : MethodName := ⟨RX2, "readPerson", "(LSpringOaths$Moor;I)V"⟩
abbrev cX2_readCell : ByteArray := prog_4_method_6_code
def yX2_readCell : MethodName := ⟨RX2, "readCell", "()I"⟩
abbrev cX2_readNumber : ByteArray := prog_4_method_7_code
def yX2_readNumber : MethodName := ⟨RX2, "readNumber", "(I)I"⟩
abbrev cX2_readName : ByteArray := prog_4_method_8_code
def yX2_readName : MethodName := ⟨RX2, "readName", "(Ljava/lang/String;)V"⟩
abbrev cX2_readSign : ByteArray := prog_4_method_9_code
def yX2_readSign : MethodName := ⟨RX2, "readSign", "(C)V"⟩
abbrev cX2_skipBlanks : ByteArray := prog_4_method_10_code
def yX2_skipBlanks : MethodName := ⟨RX2, "skipBlanks", "()V"⟩
abbrev cX2_refuse : ByteArray := prog_4_method_11_code
def yX2_refuse : MethodName := ⟨RX2, "refuse", "(I)V"⟩
abbrev cX2_isHere : ByteArray := prog_4_method_12_code
def yX2_isHere : MethodName := ⟨RX2, "isHere", "(Ljava/lang/String;)Z"⟩
abbrev cX2_kindHere : ByteArray := prog_4_method_13_code
def yX2_kindHere : MethodName := ⟨RX2, "kindHere", "()I"⟩
abbrev cX2_lawHere : ByteArray := prog_4_method_14_code
def yX2_lawHere : MethodName := ⟨RX2, "lawHere", "()I"⟩
abbrev cX2_isLetter : ByteArray := prog_4_method_15_code
def yX2_isLetter : MethodName := ⟨RX2, "isLetter", "(I)Z"⟩
abbrev cX2_isDigit : ByteArray := prog_4_method_16_code
def yX2_isDigit : MethodName := ⟨RX2, "isDigit", "(I)Z"⟩
abbrev cX2_kindName : ByteArray := prog_4_method_17_code
def yX2_kindName : MethodName := ⟨RX2, "kindName", "(I)Ljava/lang/String;"⟩
abbrev cX2_lawName : ByteArray := prog_4_method_18_code
def yX2_lawName : MethodName := ⟨RX2, "lawName", "(I)Ljava/lang/String;"⟩
def RX3 : String := "SpringOaths"
def TX3 : u_T := fun k => match k with
  | 0 => ("SpringOaths", "now", "LSpringOaths$Moor;", true)
  | 1 => ("SpringOaths", "tried", "LSpringOaths$Moor;", true)
  | 2 => ("SpringOaths", "kept", "LSpringOaths$Moor;", true)
  | 3 => ("SpringOaths", "anyKept", "Z", false)
  | 4 => ("SpringOaths", "tape", "LSpringOaths$Tape;", true)
  | 5 => ("SpringOaths", "rows", "[[I", true)
  | 6 => ("SpringOaths", "rowCount", "I", false)
  | 7 => ("SpringOaths", "sheetSorts", "[I", true)
  | 8 => ("SpringOaths", "sheetSizes", "[I", true)
  | 9 => ("SpringOaths", "sheetItems", "[[J", true)
  | 10 => ("SpringOaths", "shelfWhats", "[I", true)
  | 11 => ("SpringOaths", "shelfNumbers", "[I", true)
  | 12 => ("SpringOaths", "shelfSorts", "[I", true)
  | _ => ("SpringOaths", "acting", "LSpringOaths$Acting;", true)
def tyX3 : Nat → FieldType := fun k => match k with
  | 0 => .object "SpringOaths$Moor"
  | 1 => .object "SpringOaths$Moor"
  | 2 => .object "SpringOaths$Moor"
  | 3 => .boolean
  | 4 => .object "SpringOaths$Tape"
  | 5 => .array (.array .int)
  | 6 => .int
  | 7 => .array .int
  | 8 => .array .int
  | 9 => .array (.array .long)
  | 10 => .array .int
  | 11 => .array .int
  | 12 => .array .int
  | _ => .object "SpringOaths$Acting"
abbrev wsX30 : List Cond := u_ws RX3 TX3 14
theorem nmX3 : ∀ a, a < 14 → ∀ b, b < 14 → a ≠ b → (TX3 a).2.1 ≠ (TX3 b).2.1 := by decide +kernel
theorem tyX3_ok : ∀ k, k < 14 → parseFieldDescriptor (TX3 k).2.2.1 = some (tyX3 k) := by decide +kernel
abbrev cX3_init : ByteArray := prog_1_method_1_code
def yX3_init : MethodName := ⟨RX3, "<init>", "()V"⟩
abbrev cX3_feed : ByteArray := prog_1_method_2_code
def yX3_feed : MethodName := ⟨RX3, "feed", "(JI)I"⟩
abbrev cX3_moor : ByteArray := prog_1_method_3_code
def yX3_moor : MethodName := ⟨RX3, "moor", "()I"⟩
abbrev cX3_set : ByteArray := prog_1_method_4_code
def yX3_set : MethodName := ⟨RX3, "set", "(II)I"⟩
abbrev cX3_lawOf : ByteArray := prog_1_method_5_code
def yX3_lawOf : MethodName := ⟨RX3, "lawOf", "(I)I"⟩
abbrev cX3_person : ByteArray := prog_1_method_6_code
def yX3_person : MethodName := ⟨RX3, "person", "(IIII)I"⟩
abbrev cX3_of : ByteArray := prog_1_method_7_code
def yX3_of : MethodName := ⟨RX3, "of", "(II)I"⟩
abbrev cX3_loses : ByteArray := prog_1_method_8_code
def yX3_loses : MethodName := ⟨RX3, "loses", "(I)I"⟩
abbrev cX3_mind : ByteArray := prog_1_method_9_code
def yX3_mind : MethodName := ⟨RX3, "mind", "(III)I"⟩
abbrev cX3_sure : ByteArray := prog_1_method_10_code
def yX3_sure : MethodName := ⟨RX3, "sure", "(II)I"⟩
abbrev cX3_bring : ByteArray := prog_1_method_11_code
def yX3_bring : MethodName := ⟨RX3, "bring", "(II)I"⟩
abbrev cX3_cell : ByteArray := prog_1_method_12_code
def yX3_cell : MethodName := ⟨RX3, "cell", "(II)I"⟩
abbrev cX3_lowest : ByteArray := prog_1_method_13_code
def yX3_lowest : MethodName := ⟨RX3, "lowest", "(I)I"⟩
abbrev cX3_water : ByteArray := prog_1_method_14_code
def yX3_water : MethodName := ⟨RX3, "water", "(II)I"⟩
abbrev cX3_height : ByteArray := prog_1_method_15_code
def yX3_height : MethodName := ⟨RX3, "height", "(II)I"⟩
abbrev cX3_wets : ByteArray := prog_1_method_16_code
def yX3_wets : MethodName := ⟨RX3, "wets", "(I)J"⟩
abbrev cX3_years : ByteArray := prog_1_method_17_code
def yX3_years : MethodName := ⟨RX3, "years", "(I)I"⟩
abbrev cX3_seed : ByteArray := prog_1_method_18_code
def yX3_seed : MethodName := ⟨RX3, "seed", "(I)I"⟩
abbrev cX3_year : ByteArray := prog_1_method_19_code
def yX3_year : MethodName := ⟨RX3, "year", "()I"⟩
abbrev cX3_revel : ByteArray := prog_1_method_20_code
def yX3_revel : MethodName := ⟨RX3, "revel", "(I)I"⟩
abbrev cX3_state : ByteArray := prog_1_method_21_code
def yX3_state : MethodName := ⟨RX3, "state", "(I)I"⟩
abbrev cX3_level : ByteArray := prog_1_method_22_code
def yX3_level : MethodName := ⟨RX3, "level", "(II)I"⟩
abbrev cX3_damp : ByteArray := prog_1_method_23_code
def yX3_damp : MethodName := ⟨RX3, "damp", "(I)I"⟩
abbrev cX3_loss : ByteArray := prog_1_method_24_code
def yX3_loss : MethodName := ⟨RX3, "loss", "(I)I"⟩
abbrev cX3_drowned : ByteArray := prog_1_method_25_code
def yX3_drowned : MethodName := ⟨RX3, "drowned", "()I"⟩
abbrev cX3_whereFor : ByteArray := prog_1_method_26_code
def yX3_whereFor : MethodName := ⟨RX3, "whereFor", "(III)I"⟩
abbrev cX3_kindFor : ByteArray := prog_1_method_27_code
def yX3_kindFor : MethodName := ⟨RX3, "kindFor", "(III)I"⟩
abbrev cX3_annoyed : ByteArray := prog_1_method_28_code
def yX3_annoyed : MethodName := ⟨RX3, "annoyed", "(III)I"⟩
abbrev cX3_needed : ByteArray := prog_1_method_29_code
def yX3_needed : MethodName := ⟨RX3, "needed", "(II)I"⟩
abbrev cX3_fewest : ByteArray := prog_1_method_30_code
def yX3_fewest : MethodName := ⟨RX3, "fewest", "(II)I"⟩
abbrev cX3_ends : ByteArray := prog_1_method_31_code
def yX3_ends : MethodName := ⟨RX3, "ends", "(I)I"⟩
abbrev cX3_fits : ByteArray := prog_1_method_32_code
def yX3_fits : MethodName := ⟨RX3, "fits", "(IIII)I"⟩
abbrev cX3_odds : ByteArray := prog_1_method_33_code
def yX3_odds : MethodName := ⟨RX3, "odds", "(III)J"⟩
abbrev cX3_hope : ByteArray := prog_1_method_34_code
def yX3_hope : MethodName := ⟨RX3, "hope", "(II)J"⟩
abbrev cX3_prove : ByteArray := prog_1_method_35_code
def yX3_prove : MethodName := ⟨RX3, "prove", "(II)I"⟩
abbrev cX3_row : ByteArray := prog_1_method_36_code
def yX3_row : MethodName := ⟨RX3, "row", "(II)I"⟩
abbrev cX3_alterRow : ByteArray := prog_1_method_37_code
def yX3_alterRow : MethodName := ⟨RX3, "alterRow", "(III)I"⟩
abbrev cX3_judge : ByteArray := prog_1_method_38_code
def yX3_judge : MethodName := ⟨RX3, "judge", "(I)I"⟩
abbrev cX3_minds : ByteArray := prog_1_method_39_code
def yX3_minds : MethodName := ⟨RX3, "minds", "(IIII)I"⟩
abbrev cX3_sheet : ByteArray := prog_1_method_40_code
def yX3_sheet : MethodName := ⟨RX3, "sheet", "(III)I"⟩
abbrev cX3_put : ByteArray := prog_1_method_41_code
def yX3_put : MethodName := ⟨RX3, "put", "(III)I"⟩
abbrev cX3_item : ByteArray := prog_1_method_42_code
def yX3_item : MethodName := ⟨RX3, "item", "(III)I"⟩
abbrev cX3_shelf : ByteArray := prog_1_method_43_code
def yX3_shelf : MethodName := ⟨RX3, "shelf", "(III)I"⟩
abbrev cX3_taken : ByteArray := prog_1_method_44_code
def yX3_taken : MethodName := ⟨RX3, "taken", "(II)I"⟩
abbrev cX3_act : ByteArray := prog_1_method_45_code
def yX3_act : MethodName := ⟨RX3, "act", "(III)I"⟩
abbrev cX3_trace : ByteArray := prog_1_method_46_code
def yX3_trace : MethodName := ⟨RX3, "trace", "(I)I"⟩
abbrev cX3_many : ByteArray := prog_1_method_47_code
def yX3_many : MethodName := ⟨RX3, "many", "(I)I"⟩
abbrev cX3_keep : ByteArray := prog_1_method_48_code
def yX3_keep : MethodName := ⟨RX3, "keep", "()I"⟩
abbrev cX3_again : ByteArray := prog_1_method_49_code
def yX3_again : MethodName := ⟨RX3, "again", "()I"⟩
abbrev cX3_levelWithout : ByteArray := prog_1_method_50_code
def yX3_levelWithout : MethodName := ⟨RX3, "levelWithout", "(III)I"⟩
abbrev cX3_fitsWith : ByteArray := prog_1_method_51_code
def yX3_fitsWith : MethodName := ⟨RX3, "fitsWith", "(IIII)Z"⟩
abbrev cX3_shelve : ByteArray := prog_1_method_52_code
def yX3_shelve : MethodName := ⟨RX3, "shelve", "(IIII)I"⟩
abbrev cX3_holdsRow : ByteArray := prog_1_method_53_code
def yX3_holdsRow : MethodName := ⟨RX3, "holdsRow", "(I)Z"⟩
abbrev cX3_holdsPerson : ByteArray := prog_1_method_54_code
def yX3_holdsPerson : MethodName := ⟨RX3, "holdsPerson", "(I)Z"⟩
abbrev cX3_isPerson : ByteArray := prog_1_method_55_code
def yX3_isPerson : MethodName := ⟨RX3, "isPerson", "(I)Z"⟩
abbrev cX3_isRowPart : ByteArray := prog_1_method_56_code
def yX3_isRowPart : MethodName := ⟨RX3, "isRowPart", "(II)Z"⟩
abbrev cX3_isWithin : ByteArray := prog_1_method_57_code
def yX3_isWithin : MethodName := ⟨RX3, "isWithin", "(II)Z"⟩
abbrev cX3_isShortTime : ByteArray := prog_1_method_58_code
def yX3_isShortTime : MethodName := ⟨RX3, "isShortTime", "(I)Z"⟩
abbrev cX3_isCell : ByteArray := prog_1_method_59_code
def yX3_isCell : MethodName := ⟨RX3, "isCell", "(I)Z"⟩
abbrev cX3_isKind : ByteArray := prog_1_method_60_code
def yX3_isKind : MethodName := ⟨RX3, "isKind", "(I)Z"⟩
abbrev cX3_isLaw : ByteArray := prog_1_method_61_code
def yX3_isLaw : MethodName := ⟨RX3, "isLaw", "(I)Z"⟩
abbrev cX3_isSheet : ByteArray := prog_1_method_62_code
def yX3_isSheet : MethodName := ⟨RX3, "isSheet", "(I)Z"⟩
abbrev cX3_isSort : ByteArray := prog_1_method_63_code
def yX3_isSort : MethodName := ⟨RX3, "isSort", "(I)Z"⟩
abbrev cX3_isShelf : ByteArray := prog_1_method_64_code
def yX3_isShelf : MethodName := ⟨RX3, "isShelf", "(I)Z"⟩
abbrev cX3_isUnder : ByteArray := prog_1_method_65_code
def yX3_isUnder : MethodName := ⟨RX3, "isUnder", "(II)Z"⟩
abbrev cX3_heldSure : ByteArray := prog_1_method_66_code
def yX3_heldSure : MethodName := ⟨RX3, "heldSure", "(I)I"⟩
abbrev cX3_narrowed : ByteArray := prog_1_method_67_code
def yX3_narrowed : MethodName := ⟨RX3, "narrowed", "(II)J"⟩
abbrev cX3_partOf : ByteArray := prog_1_method_68_code
def yX3_partOf : MethodName := ⟨RX3, "partOf", "(JJI)J"⟩
def RX4 : String := "SpringOathsModel"
def TX4 : u_T := fun k => match k with
  | 0 => ("SpringOathsModel", "d", "[I", true)
  | 1 => ("SpringOathsModel", "kept", "[I", true)
  | 2 => ("SpringOathsModel", "aside", "[I", true)
  | 3 => ("SpringOathsModel", "isKept", "Z", false)
  | 4 => ("SpringOathsModel", "mute", "I", false)
  | 5 => ("SpringOathsModel", "more", "[I", true)
  | 6 => ("SpringOathsModel", "tape", "[I", true)
  | 7 => ("SpringOathsModel", "taped", "I", false)
  | 8 => ("SpringOathsModel", "at", "I", false)
  | 9 => ("SpringOathsModel", "begun", "I", false)
  | 10 => ("SpringOathsModel", "token", "I", false)
  | 11 => ("SpringOathsModel", "value", "I", false)
  | 12 => ("SpringOathsModel", "words", "[C", true)
  | 13 => ("SpringOathsModel", "told", "I", false)
  | 14 => ("SpringOathsModel", "row", "[I", true)
  | 15 => ("SpringOathsModel", "rows", "I", false)
  | 16 => ("SpringOathsModel", "sortOf", "[I", true)
  | 17 => ("SpringOathsModel", "sizeOf", "[I", true)
  | 18 => ("SpringOathsModel", "item", "[J", true)
  | 19 => ("SpringOathsModel", "shelfHas", "[I", true)
  | 20 => ("SpringOathsModel", "shelfWhich", "[I", true)
  | 21 => ("SpringOathsModel", "shelfSize", "[I", true)
  | 22 => ("SpringOathsModel", "traced", "[I", true)
  | 23 => ("SpringOathsModel", "traceMany", "I", false)
  | 24 => ("SpringOathsModel", "who", "I", false)
  | _ => ("SpringOathsModel", "isParted", "Z", false)
def tyX4 : Nat → FieldType := fun k => match k with
  | 0 => .array .int
  | 1 => .array .int
  | 2 => .array .int
  | 3 => .boolean
  | 4 => .int
  | 5 => .array .int
  | 6 => .array .int
  | 7 => .int
  | 8 => .int
  | 9 => .int
  | 10 => .int
  | 11 => .int
  | 12 => .array .char
  | 13 => .int
  | 14 => .array .int
  | 15 => .int
  | 16 => .array .int
  | 17 => .array .int
  | 18 => .array .long
  | 19 => .array .int
  | 20 => .array .int
  | 21 => .array .int
  | 22 => .array .int
  | 23 => .int
  | 24 => .int
  | _ => .boolean
abbrev wsX40 : List Cond := u_ws RX4 TX4 26
theorem nmX4 : ∀ a, a < 26 → ∀ b, b < 26 → a ≠ b → (TX4 a).2.1 ≠ (TX4 b).2.1 := by decide +kernel
theorem tyX4_ok : ∀ k, k < 26 → parseFieldDescriptor (TX4 k).2.2.1 = some (tyX4 k) := by decide +kernel
abbrev cX4_init : ByteArray := prog_6_method_1_code
def yX4_init : MethodName := ⟨RX4, "<init>", "()V"⟩
abbrev cX4_first : ByteArray := prog_6_method_3_code
def yX4_first : MethodName := ⟨RX4, "first", "()V"⟩
abbrev cX4_in : ByteArray := prog_6_method_4_code
def yX4_in : MethodName := ⟨RX4, "in", "(JJJ)Z"⟩
abbrev cX4_held : ByteArray := prog_6_method_5_code
def yX4_held : MethodName := ⟨RX4, "held", "(I)I"⟩
abbrev cX4_isPerson : ByteArray := prog_6_method_6_code
def yX4_isPerson : MethodName := ⟨RX4, "isPerson", "(I)Z"⟩
abbrev cX4_isCell : ByteArray := prog_6_method_7_code
def yX4_isCell : MethodName := ⟨RX4, "isCell", "(I)Z"⟩
abbrev cX4_get : ByteArray := prog_6_method_8_code
def yX4_get : MethodName := ⟨RX4, "get", "(II)I"⟩
abbrev cX4_puts : ByteArray := prog_6_method_9_code
def yX4_puts : MethodName := ⟨RX4, "puts", "(III)V"⟩
abbrev cX4_keepAside : ByteArray := prog_6_method_10_code
def yX4_keepAside : MethodName := ⟨RX4, "keepAside", "()V"⟩
abbrev cX4_putBack : ByteArray := prog_6_method_11_code
def yX4_putBack : MethodName := ⟨RX4, "putBack", "()V"⟩
abbrev cX4_bits : ByteArray := prog_6_method_12_code
def yX4_bits : MethodName := ⟨RX4, "bits", "(I)I"⟩
abbrev cX4_wells : ByteArray := prog_6_method_13_code
def yX4_wells : MethodName := ⟨RX4, "wells", "(I)I"⟩
abbrev cX4_losesOf : ByteArray := prog_6_method_14_code
def yX4_losesOf : MethodName := ⟨RX4, "losesOf", "(I)I"⟩
abbrev cX4_winsOf : ByteArray := prog_6_method_15_code
def yX4_winsOf : MethodName := ⟨RX4, "winsOf", "(I)I"⟩
abbrev cX4_doDisagree : ByteArray := prog_6_method_16_code
def yX4_doDisagree : MethodName := ⟨RX4, "doDisagree", "(II)Z"⟩
abbrev cX4_lowestOf : ByteArray := prog_6_method_17_code
def yX4_lowestOf : MethodName := ⟨RX4, "lowestOf", "(I)I"⟩
abbrev cX4_isWet : ByteArray := prog_6_method_18_code
def yX4_isWet : MethodName := ⟨RX4, "isWet", "(I)Z"⟩
abbrev cX4_comesTo : ByteArray := prog_6_method_19_code
def yX4_comesTo : MethodName := ⟨RX4, "comesTo", "(II)V"⟩
abbrev cX4_yearGoes : ByteArray := prog_6_method_20_code
def yX4_yearGoes : MethodName := ⟨RX4, "yearGoes", "()V"⟩
abbrev cX4_yearsGo : ByteArray := prog_6_method_21_code
def yX4_yearsGo : MethodName := ⟨RX4, "yearsGo", "(I)V"⟩
abbrev cX4_set : ByteArray := prog_6_method_22_code
def yX4_set : MethodName := ⟨RX4, "set", "(II)I"⟩
abbrev cX4_lawOf : ByteArray := prog_6_method_23_code
def yX4_lawOf : MethodName := ⟨RX4, "lawOf", "(I)I"⟩
abbrev cX4_comes : ByteArray := prog_6_method_24_code
def yX4_comes : MethodName := ⟨RX4, "comes", "(IIII)I"⟩
abbrev cX4_person : ByteArray := prog_6_method_25_code
def yX4_person : MethodName := ⟨RX4, "person", "(IIII)I"⟩
abbrev cX4_foesOf : ByteArray := prog_6_method_26_code
def yX4_foesOf : MethodName := ⟨RX4, "foesOf", "(I)I"⟩
abbrev cX4_of : ByteArray := prog_6_method_27_code
def yX4_of : MethodName := ⟨RX4, "of", "(II)I"⟩
abbrev cX4_loses : ByteArray := prog_6_method_28_code
def yX4_loses : MethodName := ⟨RX4, "loses", "(I)I"⟩
abbrev cX4_mind : ByteArray := prog_6_method_29_code
def yX4_mind : MethodName := ⟨RX4, "mind", "(III)I"⟩
abbrev cX4_sure : ByteArray := prog_6_method_30_code
def yX4_sure : MethodName := ⟨RX4, "sure", "(II)I"⟩
abbrev cX4_bring : ByteArray := prog_6_method_31_code
def yX4_bring : MethodName := ⟨RX4, "bring", "(II)I"⟩
abbrev cX4_atCell : ByteArray := prog_6_method_32_code
def yX4_atCell : MethodName := ⟨RX4, "atCell", "(II)I"⟩
abbrev cX4_cell : ByteArray := prog_6_method_33_code
def yX4_cell : MethodName := ⟨RX4, "cell", "(II)I"⟩
abbrev cX4_lowest : ByteArray := prog_6_method_34_code
def yX4_lowest : MethodName := ⟨RX4, "lowest", "(I)I"⟩
abbrev cX4_water : ByteArray := prog_6_method_35_code
def yX4_water : MethodName := ⟨RX4, "water", "(II)I"⟩
abbrev cX4_height : ByteArray := prog_6_method_36_code
def yX4_height : MethodName := ⟨RX4, "height", "(II)I"⟩
abbrev cX4_isSuch : ByteArray := prog_6_method_37_code
def yX4_isSuch : MethodName := ⟨RX4, "isSuch", "(II)Z"⟩
abbrev cX4_cellsSuch : ByteArray := prog_6_method_38_code
def yX4_cellsSuch : MethodName := ⟨RX4, "cellsSuch", "(I)I"⟩
abbrev cX4_wets : ByteArray := prog_6_method_39_code
def yX4_wets : MethodName := ⟨RX4, "wets", "(I)J"⟩
abbrev cX4_lost : ByteArray := prog_6_method_40_code
def yX4_lost : MethodName := ⟨RX4, "lost", "()I"⟩
abbrev cX4_years : ByteArray := prog_6_method_41_code
def yX4_years : MethodName := ⟨RX4, "years", "(I)I"⟩
abbrev cX4_seed : ByteArray := prog_6_method_42_code
def yX4_seed : MethodName := ⟨RX4, "seed", "(I)I"⟩
abbrev cX4_drawn : ByteArray := prog_6_method_43_code
def yX4_drawn : MethodName := ⟨RX4, "drawn", "()I"⟩
abbrev cX4_yearByDraws : ByteArray := prog_6_method_44_code
def yX4_yearByDraws : MethodName := ⟨RX4, "yearByDraws", "()V"⟩
abbrev cX4_year : ByteArray := prog_6_method_45_code
def yX4_year : MethodName := ⟨RX4, "year", "()I"⟩
abbrev cX4_revel : ByteArray := prog_6_method_46_code
def yX4_revel : MethodName := ⟨RX4, "revel", "(I)I"⟩
abbrev cX4_state : ByteArray := prog_6_method_47_code
def yX4_state : MethodName := ⟨RX4, "state", "(I)I"⟩
abbrev cX4_levelWith : ByteArray := prog_6_method_48_code
def yX4_levelWith : MethodName := ⟨RX4, "levelWith", "(IIII)I"⟩
abbrev cX4_level : ByteArray := prog_6_method_49_code
def yX4_level : MethodName := ⟨RX4, "level", "(II)I"⟩
abbrev cX4_isDrowned : ByteArray := prog_6_method_50_code
def yX4_isDrowned : MethodName := ⟨RX4, "isDrowned", "()Z"⟩
abbrev cX4_whenFirst : ByteArray := prog_6_method_51_code
def yX4_whenFirst : MethodName := ⟨RX4, "whenFirst", "(II)I"⟩
abbrev cX4_damp : ByteArray := prog_6_method_52_code
def yX4_damp : MethodName := ⟨RX4, "damp", "(I)I"⟩
abbrev cX4_loss : ByteArray := prog_6_method_53_code
def yX4_loss : MethodName := ⟨RX4, "loss", "(I)I"⟩
abbrev cX4_drowned : ByteArray := prog_6_method_54_code
def yX4_drowned : MethodName := ⟨RX4, "drowned", "()I"⟩
abbrev cX4_isAsk : ByteArray := prog_6_method_55_code
def yX4_isAsk : MethodName := ⟨RX4, "isAsk", "(III)Z"⟩
abbrev cX4_mostBy : ByteArray := prog_6_method_56_code
def yX4_mostBy : MethodName := ⟨RX4, "mostBy", "(IIII)I"⟩
abbrev cX4_whereFor : ByteArray := prog_6_method_57_code
def yX4_whereFor : MethodName := ⟨RX4, "whereFor", "(III)I"⟩
abbrev cX4_kindFor : ByteArray := prog_6_method_58_code
def yX4_kindFor : MethodName := ⟨RX4, "kindFor", "(III)I"⟩
abbrev cX4_annoyed : ByteArray := prog_6_method_59_code
def yX4_annoyed : MethodName := ⟨RX4, "annoyed", "(III)I"⟩
abbrev cX4_levelWithout : ByteArray := prog_6_method_60_code
def yX4_levelWithout : MethodName := ⟨RX4, "levelWithout", "(III)I"⟩
abbrev cX4_needed : ByteArray := prog_6_method_61_code
def yX4_needed : MethodName := ⟨RX4, "needed", "(II)I"⟩
abbrev cX4_fewest : ByteArray := prog_6_method_62_code
def yX4_fewest : MethodName := ⟨RX4, "fewest", "(II)I"⟩
abbrev cX4_ends : ByteArray := prog_6_method_63_code
def yX4_ends : MethodName := ⟨RX4, "ends", "(I)I"⟩
abbrev cX4_isTold : ByteArray := prog_6_method_64_code
def yX4_isTold : MethodName := ⟨RX4, "isTold", "(IIII)Z"⟩
abbrev cX4_fits : ByteArray := prog_6_method_65_code
def yX4_fits : MethodName := ⟨RX4, "fits", "(IIII)I"⟩
abbrev cX4_common : ByteArray := prog_6_method_66_code
def yX4_common : MethodName := ⟨RX4, "common", "(JJ)J"⟩
abbrev cX4_partOf : ByteArray := prog_6_method_67_code
def yX4_partOf : MethodName := ⟨RX4, "partOf", "(JJI)J"⟩
abbrev cX4_odds : ByteArray := prog_6_method_68_code
def yX4_odds : MethodName := ⟨RX4, "odds", "(III)J"⟩
abbrev cX4_hope : ByteArray := prog_6_method_69_code
def yX4_hope : MethodName := ⟨RX4, "hope", "(II)J"⟩
abbrev cX4_feed : ByteArray := prog_6_method_70_code
def yX4_feed : MethodName := ⟨RX4, "feed", "(JI)I"⟩
abbrev cX4_isRow : ByteArray := prog_6_method_71_code
def yX4_isRow : MethodName := ⟨RX4, "isRow", "(CC)Z"⟩
abbrev cX4_wordThere : ByteArray := prog_6_method_72_code
def yX4_wordThere : MethodName := ⟨RX4, "wordThere", "()I"⟩
abbrev cX4_next : ByteArray := prog_6_method_73_code
def yX4_next : MethodName := ⟨RX4, "next", "()V"⟩
abbrev cX4_isWord : ByteArray := prog_6_method_74_code
def yX4_isWord : MethodName := ⟨RX4, "isWord", "(I)Z"⟩
abbrev cX4_reads : ByteArray := prog_6_method_75_code
def yX4_reads : MethodName := ⟨RX4, "reads", "(I)Z"⟩
abbrev cX4_readsWord : ByteArray := prog_6_method_76_code
def yX4_readsWord : MethodName := ⟨RX4, "readsWord", "(I)Z"⟩
abbrev cX4_readsPerson : ByteArray := prog_6_method_77_code
def yX4_readsPerson : MethodName := ⟨RX4, "readsPerson", "(IIZ)Z"⟩
abbrev cX4_readsCell : ByteArray := prog_6_method_78_code
def yX4_readsCell : MethodName := ⟨RX4, "readsCell", "(IZ)Z"⟩
abbrev cX4_readsLaw : ByteArray := prog_6_method_79_code
def yX4_readsLaw : MethodName := ⟨RX4, "readsLaw", "(IZ)Z"⟩
abbrev cX4_readsAll : ByteArray := prog_6_method_80_code
def yX4_readsAll : MethodName := ⟨RX4, "readsAll", "(Z)Z"⟩
abbrev cX4_moor : ByteArray := prog_6_method_81_code
def yX4_moor : MethodName := ⟨RX4, "moor", "()I"⟩
abbrev cX4_mustBe : ByteArray := prog_6_method_82_code
def yX4_mustBe : MethodName := ⟨RX4, "mustBe", "(II)I"⟩
abbrev cX4_prove : ByteArray := prog_6_method_83_code
def yX4_prove : MethodName := ⟨RX4, "prove", "(II)I"⟩
abbrev cX4_row : ByteArray := prog_6_method_84_code
def yX4_row : MethodName := ⟨RX4, "row", "(II)I"⟩
abbrev cX4_alterRow : ByteArray := prog_6_method_85_code
def yX4_alterRow : MethodName := ⟨RX4, "alterRow", "(III)I"⟩
abbrev cX4_judge : ByteArray := prog_6_method_86_code
def yX4_judge : MethodName := ⟨RX4, "judge", "(I)I"⟩
abbrev cX4_isSheet : ByteArray := prog_6_method_87_code
def yX4_isSheet : MethodName := ⟨RX4, "isSheet", "(I)Z"⟩
abbrev cX4_minds : ByteArray := prog_6_method_88_code
def yX4_minds : MethodName := ⟨RX4, "minds", "(IIII)I"⟩
abbrev cX4_sheet : ByteArray := prog_6_method_89_code
def yX4_sheet : MethodName := ⟨RX4, "sheet", "(III)I"⟩
abbrev cX4_put : ByteArray := prog_6_method_90_code
def yX4_put : MethodName := ⟨RX4, "put", "(III)I"⟩
abbrev cX4_item : ByteArray := prog_6_method_91_code
def yX4_item : MethodName := ⟨RX4, "item", "(III)I"⟩
abbrev cX4_shelf : ByteArray := prog_6_method_92_code
def yX4_shelf : MethodName := ⟨RX4, "shelf", "(III)I"⟩
abbrev cX4_holdsNothing : ByteArray := prog_6_method_93_code
def yX4_holdsNothing : MethodName := ⟨RX4, "holdsNothing", "(I)Z"⟩
abbrev cX4_above : ByteArray := prog_6_method_94_code
def yX4_above : MethodName := ⟨RX4, "above", "(I)I"⟩
abbrev cX4_taken : ByteArray := prog_6_method_95_code
def yX4_taken : MethodName := ⟨RX4, "taken", "(II)I"⟩
abbrev cX4_ran : ByteArray := prog_6_method_96_code
def yX4_ran : MethodName := ⟨RX4, "ran", "(I)V"⟩
abbrev cX4_swearsBy : ByteArray := prog_6_method_97_code
def yX4_swearsBy : MethodName := ⟨RX4, "swearsBy", "(II)I"⟩
abbrev cX4_doubtsBy : ByteArray := prog_6_method_98_code
def yX4_doubtsBy : MethodName := ⟨RX4, "doubtsBy", "(II)I"⟩
abbrev cX4_partsBy : ByteArray := prog_6_method_99_code
def yX4_partsBy : MethodName := ⟨RX4, "partsBy", "(II)I"⟩
abbrev cX4_signsBy : ByteArray := prog_6_method_100_code
def yX4_signsBy : MethodName := ⟨RX4, "signsBy", "(II)I"⟩
abbrev cX4_act : ByteArray := prog_6_method_101_code
def yX4_act : MethodName := ⟨RX4, "act", "(III)I"⟩
abbrev cX4_trace : ByteArray := prog_6_method_102_code
def yX4_trace : MethodName := ⟨RX4, "trace", "(I)I"⟩
abbrev cX4_many : ByteArray := prog_6_method_103_code
def yX4_many : MethodName := ⟨RX4, "many", "(I)I"⟩
abbrev cX4_keep : ByteArray := prog_6_method_104_code
def yX4_keep : MethodName := ⟨RX4, "keep", "()I"⟩
abbrev cX4_again : ByteArray := prog_6_method_105_code
def yX4_again : MethodName := ⟨RX4, "again", "()I"⟩
def RJ6 : String := "java/lang/Integer"
def TJ6 : u_T := fun k => match k with
  | _ => ("", "", "", false)
def tyJ6 : Nat → FieldType := fun k => match k with
  | _ => .int
abbrev wsJ60 : List Cond := u_ws RJ6 TJ6 0
theorem nmJ6 : ∀ a, a < 0 → ∀ b, b < 0 → a ≠ b → (TJ6 a).2.1 ≠ (TJ6 b).2.1 := by decide +kernel
theorem tyJ6_ok : ∀ k, k < 0 → parseFieldDescriptor (TJ6 k).2.2.1 = some (tyJ6 k) := by decide +kernel
abbrev cJ6_bitCount_0f7a4 : ByteArray := prog_7_method_49_code
def yJ6_bitCount_0f7a4 : MethodName := ⟨RJ6, "bitCount", "(I)I"⟩
def RJ13 : String := "java/lang/Long"
def TJ13 : u_T := fun k => match k with
  | _ => ("", "", "", false)
def tyJ13 : Nat → FieldType := fun k => match k with
  | _ => .int
abbrev wsJ130 : List Cond := u_ws RJ13 TJ13 0
theorem nmJ13 : ∀ a, a < 0 → ∀ b, b < 0 → a ≠ b → (TJ13 a).2.1 ≠ (TJ13 b).2.1 := by decide +kernel
theorem tyJ13_ok : ∀ k, k < 0 → parseFieldDescriptor (TJ13 k).2.2.1 = some (tyJ13 k) := by decide +kernel
abbrev cJ13_bitCount_95d88 : ByteArray := prog_8_method_50_code
def yJ13_bitCount_95d88 : MethodName := ⟨RJ13, "bitCount", "(J)I"⟩
def RJ9 : String := "java/lang/Math"
def TJ9 : u_T := fun k => match k with
  | _ => ("", "", "", false)
def tyJ9 : Nat → FieldType := fun k => match k with
  | _ => .int
abbrev wsJ90 : List Cond := u_ws RJ9 TJ9 0
theorem nmJ9 : ∀ a, a < 0 → ∀ b, b < 0 → a ≠ b → (TJ9 a).2.1 ≠ (TJ9 b).2.1 := by decide +kernel
theorem tyJ9_ok : ∀ k, k < 0 → parseFieldDescriptor (TJ9 k).2.2.1 = some (tyJ9 k) := by decide +kernel
abbrev cJ9_abs_0f7a4 : ByteArray := prog_9_method_59_code
def yJ9_abs_0f7a4 : MethodName := ⟨RJ9, "abs", "(I)I"⟩
abbrev cJ9_max_7cf53 : ByteArray := prog_9_method_65_code
def yJ9_max_7cf53 : MethodName := ⟨RJ9, "max", "(II)I"⟩
abbrev cJ9_min_7cf53 : ByteArray := prog_9_method_69_code
def yJ9_min_7cf53 : MethodName := ⟨RJ9, "min", "(II)I"⟩
def RJ0 : String := "java/lang/String"
def TJ0 : u_T := fun k => match k with
  | _ => ("", "", "", false)
def tyJ0 : Nat → FieldType := fun k => match k with
  | _ => .int
abbrev wsJ00 : List Cond := u_ws RJ0 TJ0 0
theorem nmJ0 : ∀ a, a < 0 → ∀ b, b < 0 → a ≠ b → (TJ0 a).2.1 ≠ (TJ0 b).2.1 := by decide +kernel
theorem tyJ0_ok : ∀ k, k < 0 → parseFieldDescriptor (TJ0 k).2.2.1 = some (tyJ0 k) := by decide +kernel
abbrev cJ0_length_8abf5 : ByteArray := prog_10_method_54_code
def yJ0_length_8abf5 : MethodName := ⟨RJ0, "length", "()I"⟩
abbrev cJ0_charAt_5068e : ByteArray := prog_10_method_56_code
def yJ0_charAt_5068e : MethodName := ⟨RJ0, "charAt", "(I)C"⟩
abbrev cJ0_coder_7d493 : ByteArray := prog_10_method_152_code
def yJ0_coder_7d493 : MethodName := ⟨RJ0, "coder", "()B"⟩
abbrev cJ0_isLatin1_aae02 : ByteArray := prog_10_method_154_code
def yJ0_isLatin1_aae02 : MethodName := ⟨RJ0, "isLatin1", "()Z"⟩
abbrev cJ0_checkIndex_df160 : ByteArray := prog_10_method_155_code
def yJ0_checkIndex_df160 : MethodName := ⟨RJ0, "checkIndex", "(II)V"⟩
def RJ1 : String := "java/lang/StringLatin1"
def TJ1 : u_T := fun k => match k with
  | _ => ("", "", "", false)
def tyJ1 : Nat → FieldType := fun k => match k with
  | _ => .int
abbrev wsJ10 : List Cond := u_ws RJ1 TJ1 0
theorem nmJ1 : ∀ a, a < 0 → ∀ b, b < 0 → a ≠ b → (TJ1 a).2.1 ≠ (TJ1 b).2.1 := by decide +kernel
theorem tyJ1_ok : ∀ k, k < 0 → parseFieldDescriptor (TJ1 k).2.2.1 = some (tyJ1 k) := by decide +kernel
abbrev cJ1_charAt_3b067 : ByteArray := prog_11_method_2_code
def yJ1_charAt_3b067 : MethodName := ⟨RJ1, "charAt", "([BI)C"⟩
def RJ2 : String := "java/lang/StringUTF16"
def TJ2 : u_T := fun k => match k with
  | _ => ("", "", "", false)
def tyJ2 : Nat → FieldType := fun k => match k with
  | _ => .int
abbrev wsJ20 : List Cond := u_ws RJ2 TJ2 0
theorem nmJ2 : ∀ a, a < 0 → ∀ b, b < 0 → a ≠ b → (TJ2 a).2.1 ≠ (TJ2 b).2.1 := by decide +kernel
theorem tyJ2_ok : ∀ k, k < 0 → parseFieldDescriptor (TJ2 k).2.2.1 = some (tyJ2 k) := by decide +kernel
abbrev cJ2_getChar_3b067 : ByteArray := prog_12_method_5_code
def yJ2_getChar_3b067 : MethodName := ⟨RJ2, "getChar", "([BI)C"⟩
abbrev cJ2_length_9d52b : ByteArray := prog_12_method_6_code
def yJ2_length_9d52b : MethodName := ⟨RJ2, "length", "([B)I"⟩
abbrev cJ2_charAt_3b067 : ByteArray := prog_12_method_83_code
def yJ2_charAt_3b067 : MethodName := ⟨RJ2, "charAt", "([BI)C"⟩
abbrev cJ2_checkIndex_2214a : ByteArray := prog_12_method_91_code
def yJ2_checkIndex_2214a : MethodName := ⟨RJ2, "checkIndex", "(I[B)V"⟩
def RJ10 : String := "java/lang/System"
def TJ10 : u_T := fun k => match k with
  | _ => ("", "", "", false)
def tyJ10 : Nat → FieldType := fun k => match k with
  | _ => .int
abbrev wsJ100 : List Cond := u_ws RJ10 TJ10 0
theorem nmJ10 : ∀ a, a < 0 → ∀ b, b < 0 → a ≠ b → (TJ10 a).2.1 ≠ (TJ10 b).2.1 := by decide +kernel
theorem tyJ10_ok : ∀ k, k < 0 → parseFieldDescriptor (TJ10 k).2.2.1 = some (tyJ10 k) := by decide +kernel
def RJ3 : String := "jdk/internal/util/Preconditions"
def TJ3 : u_T := fun k => match k with
  | _ => ("", "", "", false)
def tyJ3 : Nat → FieldType := fun k => match k with
  | _ => .int
abbrev wsJ30 : List Cond := u_ws RJ3 TJ3 0
theorem nmJ3 : ∀ a, a < 0 → ∀ b, b < 0 → a ≠ b → (TJ3 a).2.1 ≠ (TJ3 b).2.1 := by decide +kernel
theorem tyJ3_ok : ∀ k, k < 0 → parseFieldDescriptor (TJ3 k).2.2.1 = some (tyJ3 k) := by decide +kernel
abbrev cJ3_checkIndex_8e157 : ByteArray := prog_14_method_11_code
def yJ3_checkIndex_8e157 : MethodName := ⟨RJ3, "checkIndex", "(IILjava/util/function/BiFunction;)I"⟩
def RL : String := "SpringOathsLaw"
abbrev cL_law : ByteArray := code
def yL_law : MethodName := ⟨RL, "law", "([I)Z"⟩
abbrev vwCl : List vw_C := [(RX0, TX0, 6), (RX1, TX1, 12), (RX2, TX2, 4), (RX3, TX3, 14), (RX4, TX4, 26)]
end
section
theorem dX0_init_0 : decode cX0_init 0 = .ok (.aload_n 0, 1) := by decide +kernel
theorem dX0_init_1 : decode cX0_init 1 = .ok (.invokespecial 3, 3) := by decide +kernel
theorem dX0_init_4 : decode cX0_init 4 = .ok (.aload_n 0, 1) := by decide +kernel
theorem dX0_init_5 : decode cX0_init 5 = .ok (.bipush 30, 2) := by decide +kernel
theorem dX0_init_7 : decode cX0_init 7 = .ok (.newarray .int, 2) := by decide +kernel
theorem dX0_init_9 : decode cX0_init 9 = .ok (.putfield 9, 3) := by decide +kernel
theorem dX0_init_12 : decode cX0_init 12 = .ok (.return_, 1) := by decide +kernel
theorem dX0_perform_0 : decode cX0_perform 0 = .ok (.aload_n 0, 1) := by decide +kernel
theorem dX0_perform_1 : decode cX0_perform 1 = .ok (.iload_n 1, 1) := by decide +kernel
theorem dX0_perform_2 : decode cX0_perform 2 = .ok (.putfield 15, 3) := by decide +kernel
theorem dX0_perform_5 : decode cX0_perform 5 = .ok (.aload_n 0, 1) := by decide +kernel
theorem dX0_perform_6 : decode cX0_perform 6 = .ok (.iload_n 2, 1) := by decide +kernel
theorem dX0_perform_7 : decode cX0_perform 7 = .ok (.putfield 19, 3) := by decide +kernel
theorem dX0_perform_10 : decode cX0_perform 10 = .ok (.aload_n 0, 1) := by decide +kernel
theorem dX0_perform_11 : decode cX0_perform 11 = .ok (.iload_n 3, 1) := by decide +kernel
theorem dX0_perform_12 : decode cX0_perform 12 = .ok (.putfield 22, 3) := by decide +kernel
theorem dX0_perform_15 : decode cX0_perform 15 = .ok (.aload_n 0, 1) := by decide +kernel
theorem dX0_perform_16 : decode cX0_perform 16 = .ok (.iconst 0, 1) := by decide +kernel
theorem dX0_perform_17 : decode cX0_perform 17 = .ok (.putfield 25, 3) := by decide +kernel
theorem dX0_perform_20 : decode cX0_perform 20 = .ok (.aload_n 0, 1) := by decide +kernel
theorem dX0_perform_21 : decode cX0_perform 21 = .ok (.invokevirtual 29, 3) := by decide +kernel
theorem dX0_perform_24 : decode cX0_perform 24 = .ok (.aload_n 0, 1) := by decide +kernel
theorem dX0_perform_25 : decode cX0_perform 25 = .ok (.aload_n 0, 1) := by decide +kernel
theorem dX0_perform_26 : decode cX0_perform 26 = .ok (.iload 4, 2) := by decide +kernel
theorem dX0_perform_28 : decode cX0_perform 28 = .ok (.invokevirtual 32, 3) := by decide +kernel
theorem dX0_perform_31 : decode cX0_perform 31 = .ok (.iload 5, 2) := by decide +kernel
theorem dX0_perform_33 : decode cX0_perform 33 = .ok (.iconst 0, 1) := by decide +kernel
theorem dX0_perform_34 : decode cX0_perform 34 = .ok (.invokevirtual 36, 3) := by decide +kernel
theorem dX0_perform_37 : decode cX0_perform 37 = .ok (.istore 6, 2) := by decide +kernel
theorem dX0_perform_39 : decode cX0_perform 39 = .ok (.aload_n 0, 1) := by decide +kernel
theorem dX0_perform_40 : decode cX0_perform 40 = .ok (.getfield 25, 3) := by decide +kernel
theorem dX0_perform_43 : decode cX0_perform 43 = .ok (.ifCond .eq 8, 3) := by decide +kernel
theorem dX0_perform_46 : decode cX0_perform 46 = .ok (.bipush (-15), 2) := by decide +kernel
theorem dX0_perform_48 : decode cX0_perform 48 = .ok (.goto 5, 3) := by decide +kernel
theorem dX0_perform_51 : decode cX0_perform 51 = .ok (.iload 6, 2) := by decide +kernel
theorem dX0_perform_53 : decode cX0_perform 53 = .ok (.ireturn, 1) := by decide +kernel
theorem dX0_own_0 : decode cX0_own 0 = .ok (.getstatic 40, 3) := by decide +kernel
theorem dX0_own_3 : decode cX0_own 3 = .ok (.aload_n 0, 1) := by decide +kernel
theorem dX0_own_4 : decode cX0_own 4 = .ok (.getfield 19, 3) := by decide +kernel
theorem dX0_own_7 : decode cX0_own 7 = .ok (.iconst 4, 1) := by decide +kernel
theorem dX0_own_8 : decode cX0_own 8 = .ok (.imul, 1) := by decide +kernel
theorem dX0_own_9 : decode cX0_own 9 = .ok (.iload_n 1, 1) := by decide +kernel
theorem dX0_own_10 : decode cX0_own 10 = .ok (.iadd, 1) := by decide +kernel
theorem dX0_own_11 : decode cX0_own 11 = .ok (.iaload, 1) := by decide +kernel
theorem dX0_own_12 : decode cX0_own 12 = .ok (.ireturn, 1) := by decide +kernel
theorem dX0_run_0 : decode cX0_run 0 = .ok (.aload_n 0, 1) := by decide +kernel
theorem dX0_run_1 : decode cX0_run 1 = .ok (.getfield 25, 3) := by decide +kernel
theorem dX0_run_4 : decode cX0_run 4 = .ok (.ifCond .ne 9, 3) := by decide +kernel
theorem dX0_run_7 : decode cX0_run 7 = .ok (.iload_n 3, 1) := by decide +kernel
theorem dX0_run_8 : decode cX0_run 8 = .ok (.bipush 40, 2) := by decide +kernel
theorem dX0_run_10 : decode cX0_run 10 = .ok (.if_icmp .le 5, 3) := by decide +kernel
theorem dX0_run_13 : decode cX0_run 13 = .ok (.iconst 0, 1) := by decide +kernel
theorem dX0_run_14 : decode cX0_run 14 = .ok (.ireturn, 1) := by decide +kernel
theorem dX0_run_15 : decode cX0_run 15 = .ok (.aload_n 0, 1) := by decide +kernel
theorem dX0_run_16 : decode cX0_run 16 = .ok (.iload_n 1, 1) := by decide +kernel
theorem dX0_run_17 : decode cX0_run 17 = .ok (.invokevirtual 43, 3) := by decide +kernel
theorem dX0_run_20 : decode cX0_run 20 = .ok (.iload_n 3, 1) := by decide +kernel
theorem dX0_run_21 : decode cX0_run 21 = .ok (.iconst 1, 1) := by decide +kernel
theorem dX0_run_22 : decode cX0_run 22 = .ok (.iadd, 1) := by decide +kernel
theorem dX0_run_23 : decode cX0_run 23 = .ok (.istore 4, 2) := by decide +kernel
theorem dX0_run_25 : decode cX0_run 25 = .ok (.iload_n 1, 1) := by decide +kernel
theorem dX0_run_26 : decode cX0_run 26 = .ok (.tableswitch 430 10 61 #[222, 231, 249, 255, 430, 430, 430, 430, 430, 430, 271, 430, 430, 430, 430, 430, 430, 430, 430, 430, 283, 295, 430, 430, 430, 430, 430, 430, 430, 430, 321, 333, 430, 430, 430, 430, 430, 430, 430, 430, 359, 376, 430, 430, 430, 430, 430, 430, 430, 430, 391, 404], 222) := by decide +kernel
theorem dX0_run_248 : decode cX0_run 248 = .ok (.iload_n 2, 1) := by decide +kernel
theorem dX0_run_249 : decode cX0_run 249 = .ok (.aload_n 0, 1) := by decide +kernel
theorem dX0_run_250 : decode cX0_run 250 = .ok (.getfield 15, 3) := by decide +kernel
theorem dX0_run_253 : decode cX0_run 253 = .ok (.iconst 3, 1) := by decide +kernel
theorem dX0_run_254 : decode cX0_run 254 = .ok (.imul, 1) := by decide +kernel
theorem dX0_run_255 : decode cX0_run 255 = .ok (.iadd, 1) := by decide +kernel
theorem dX0_run_256 : decode cX0_run 256 = .ok (.ireturn, 1) := by decide +kernel
theorem dX0_run_257 : decode cX0_run 257 = .ok (.aload_n 0, 1) := by decide +kernel
theorem dX0_run_258 : decode cX0_run 258 = .ok (.aload_n 0, 1) := by decide +kernel
theorem dX0_run_259 : decode cX0_run 259 = .ok (.iconst 0, 1) := by decide +kernel
theorem dX0_run_260 : decode cX0_run 260 = .ok (.invokevirtual 32, 3) := by decide +kernel
theorem dX0_run_263 : decode cX0_run 263 = .ok (.iload_n 2, 1) := by decide +kernel
theorem dX0_run_264 : decode cX0_run 264 = .ok (.iload 4, 2) := by decide +kernel
theorem dX0_run_266 : decode cX0_run 266 = .ok (.invokevirtual 36, 3) := by decide +kernel
theorem dX0_run_269 : decode cX0_run 269 = .ok (.aload_n 0, 1) := by decide +kernel
theorem dX0_run_270 : decode cX0_run 270 = .ok (.getfield 22, 3) := by decide +kernel
theorem dX0_run_273 : decode cX0_run 273 = .ok (.isub, 1) := by decide +kernel
theorem dX0_run_274 : decode cX0_run 274 = .ok (.ireturn, 1) := by decide +kernel
theorem dX0_run_275 : decode cX0_run 275 = .ok (.aload_n 0, 1) := by decide +kernel
theorem dX0_run_276 : decode cX0_run 276 = .ok (.iload_n 2, 1) := by decide +kernel
theorem dX0_run_277 : decode cX0_run 277 = .ok (.invokevirtual 47, 3) := by decide +kernel
theorem dX0_run_280 : decode cX0_run 280 = .ok (.ireturn, 1) := by decide +kernel
theorem dX0_run_281 : decode cX0_run 281 = .ok (.aload_n 0, 1) := by decide +kernel
theorem dX0_run_282 : decode cX0_run 282 = .ok (.aload_n 0, 1) := by decide +kernel
theorem dX0_run_283 : decode cX0_run 283 = .ok (.iconst 1, 1) := by decide +kernel
theorem dX0_run_284 : decode cX0_run 284 = .ok (.invokevirtual 32, 3) := by decide +kernel
theorem dX0_run_287 : decode cX0_run 287 = .ok (.iload_n 2, 1) := by decide +kernel
theorem dX0_run_288 : decode cX0_run 288 = .ok (.iload 4, 2) := by decide +kernel
theorem dX0_run_290 : decode cX0_run 290 = .ok (.invokevirtual 36, 3) := by decide +kernel
theorem dX0_run_293 : decode cX0_run 293 = .ok (.bipush 9, 2) := by decide +kernel
theorem dX0_run_295 : decode cX0_run 295 = .ok (.ixor, 1) := by decide +kernel
theorem dX0_run_296 : decode cX0_run 296 = .ok (.ireturn, 1) := by decide +kernel
theorem dX0_run_297 : decode cX0_run 297 = .ok (.aload_n 0, 1) := by decide +kernel
theorem dX0_run_298 : decode cX0_run 298 = .ok (.bipush 11, 2) := by decide +kernel
theorem dX0_run_300 : decode cX0_run 300 = .ok (.iload_n 2, 1) := by decide +kernel
theorem dX0_run_301 : decode cX0_run 301 = .ok (.iload 4, 2) := by decide +kernel
theorem dX0_run_303 : decode cX0_run 303 = .ok (.invokevirtual 36, 3) := by decide +kernel
theorem dX0_run_306 : decode cX0_run 306 = .ok (.iconst 2, 1) := by decide +kernel
theorem dX0_run_307 : decode cX0_run 307 = .ok (.imul, 1) := by decide +kernel
theorem dX0_run_308 : decode cX0_run 308 = .ok (.ireturn, 1) := by decide +kernel
theorem dX0_run_309 : decode cX0_run 309 = .ok (.aload_n 0, 1) := by decide +kernel
theorem dX0_run_310 : decode cX0_run 310 = .ok (.bipush 10, 2) := by decide +kernel
theorem dX0_run_312 : decode cX0_run 312 = .ok (.iload_n 2, 1) := by decide +kernel
theorem dX0_run_313 : decode cX0_run 313 = .ok (.iload 4, 2) := by decide +kernel
theorem dX0_run_315 : decode cX0_run 315 = .ok (.invokevirtual 36, 3) := by decide +kernel
theorem dX0_run_318 : decode cX0_run 318 = .ok (.iconst 1, 1) := by decide +kernel
theorem dX0_run_319 : decode cX0_run 319 = .ok (.iadd, 1) := by decide +kernel
theorem dX0_run_320 : decode cX0_run 320 = .ok (.ireturn, 1) := by decide +kernel
theorem dX0_run_321 : decode cX0_run 321 = .ok (.aload_n 0, 1) := by decide +kernel
theorem dX0_run_322 : decode cX0_run 322 = .ok (.bipush 13, 2) := by decide +kernel
theorem dX0_run_324 : decode cX0_run 324 = .ok (.iload_n 2, 1) := by decide +kernel
theorem dX0_run_325 : decode cX0_run 325 = .ok (.iload 4, 2) := by decide +kernel
theorem dX0_run_327 : decode cX0_run 327 = .ok (.invokevirtual 36, 3) := by decide +kernel
theorem dX0_run_330 : decode cX0_run 330 = .ok (.aload_n 0, 1) := by decide +kernel
theorem dX0_run_331 : decode cX0_run 331 = .ok (.aload_n 0, 1) := by decide +kernel
theorem dX0_run_332 : decode cX0_run 332 = .ok (.iconst 2, 1) := by decide +kernel
theorem dX0_run_333 : decode cX0_run 333 = .ok (.invokevirtual 32, 3) := by decide +kernel
theorem dX0_run_336 : decode cX0_run 336 = .ok (.aload_n 0, 1) := by decide +kernel
theorem dX0_run_337 : decode cX0_run 337 = .ok (.getfield 15, 3) := by decide +kernel
theorem dX0_run_340 : decode cX0_run 340 = .ok (.iload 4, 2) := by decide +kernel
theorem dX0_run_342 : decode cX0_run 342 = .ok (.invokevirtual 36, 3) := by decide +kernel
theorem dX0_run_345 : decode cX0_run 345 = .ok (.isub, 1) := by decide +kernel
theorem dX0_run_346 : decode cX0_run 346 = .ok (.ireturn, 1) := by decide +kernel
theorem dX0_run_347 : decode cX0_run 347 = .ok (.iconst 0, 1) := by decide +kernel
theorem dX0_run_348 : decode cX0_run 348 = .ok (.aload_n 0, 1) := by decide +kernel
theorem dX0_run_349 : decode cX0_run 349 = .ok (.bipush 30, 2) := by decide +kernel
theorem dX0_run_351 : decode cX0_run 351 = .ok (.iload_n 2, 1) := by decide +kernel
theorem dX0_run_352 : decode cX0_run 352 = .ok (.iload 4, 2) := by decide +kernel
theorem dX0_run_354 : decode cX0_run 354 = .ok (.invokevirtual 36, 3) := by decide +kernel
theorem dX0_run_357 : decode cX0_run 357 = .ok (.isub, 1) := by decide +kernel
theorem dX0_run_358 : decode cX0_run 358 = .ok (.ireturn, 1) := by decide +kernel
theorem dX0_run_359 : decode cX0_run 359 = .ok (.aload_n 0, 1) := by decide +kernel
theorem dX0_run_360 : decode cX0_run 360 = .ok (.bipush 11, 2) := by decide +kernel
theorem dX0_run_362 : decode cX0_run 362 = .ok (.iload_n 2, 1) := by decide +kernel
theorem dX0_run_363 : decode cX0_run 363 = .ok (.iload 4, 2) := by decide +kernel
theorem dX0_run_365 : decode cX0_run 365 = .ok (.invokevirtual 36, 3) := by decide +kernel
theorem dX0_run_368 : decode cX0_run 368 = .ok (.aload_n 0, 1) := by decide +kernel
theorem dX0_run_369 : decode cX0_run 369 = .ok (.aload_n 0, 1) := by decide +kernel
theorem dX0_run_370 : decode cX0_run 370 = .ok (.iconst 0, 1) := by decide +kernel
theorem dX0_run_371 : decode cX0_run 371 = .ok (.invokevirtual 32, 3) := by decide +kernel
theorem dX0_run_374 : decode cX0_run 374 = .ok (.aload_n 0, 1) := by decide +kernel
theorem dX0_run_375 : decode cX0_run 375 = .ok (.getfield 22, 3) := by decide +kernel
theorem dX0_run_378 : decode cX0_run 378 = .ok (.iload 4, 2) := by decide +kernel
theorem dX0_run_380 : decode cX0_run 380 = .ok (.invokevirtual 36, 3) := by decide +kernel
theorem dX0_run_383 : decode cX0_run 383 = .ok (.iadd, 1) := by decide +kernel
theorem dX0_run_384 : decode cX0_run 384 = .ok (.ireturn, 1) := by decide +kernel
theorem dX0_run_385 : decode cX0_run 385 = .ok (.aload_n 0, 1) := by decide +kernel
theorem dX0_run_386 : decode cX0_run 386 = .ok (.bipush 12, 2) := by decide +kernel
theorem dX0_run_388 : decode cX0_run 388 = .ok (.iload_n 2, 1) := by decide +kernel
theorem dX0_run_389 : decode cX0_run 389 = .ok (.iconst 4, 1) := by decide +kernel
theorem dX0_run_390 : decode cX0_run 390 = .ok (.imul, 1) := by decide +kernel
theorem dX0_run_391 : decode cX0_run 391 = .ok (.iload 4, 2) := by decide +kernel
theorem dX0_run_393 : decode cX0_run 393 = .ok (.invokevirtual 36, 3) := by decide +kernel
theorem dX0_run_396 : decode cX0_run 396 = .ok (.aload_n 0, 1) := by decide +kernel
theorem dX0_run_397 : decode cX0_run 397 = .ok (.getfield 22, 3) := by decide +kernel
theorem dX0_run_400 : decode cX0_run 400 = .ok (.isub, 1) := by decide +kernel
theorem dX0_run_401 : decode cX0_run 401 = .ok (.ireturn, 1) := by decide +kernel
theorem dX0_run_402 : decode cX0_run 402 = .ok (.aload_n 0, 1) := by decide +kernel
theorem dX0_run_403 : decode cX0_run 403 = .ok (.bipush 10, 2) := by decide +kernel
theorem dX0_run_405 : decode cX0_run 405 = .ok (.iload_n 2, 1) := by decide +kernel
theorem dX0_run_406 : decode cX0_run 406 = .ok (.iload 4, 2) := by decide +kernel
theorem dX0_run_408 : decode cX0_run 408 = .ok (.invokevirtual 36, 3) := by decide +kernel
theorem dX0_run_411 : decode cX0_run 411 = .ok (.aload_n 0, 1) := by decide +kernel
theorem dX0_run_412 : decode cX0_run 412 = .ok (.getfield 15, 3) := by decide +kernel
theorem dX0_run_415 : decode cX0_run 415 = .ok (.ixor, 1) := by decide +kernel
theorem dX0_run_416 : decode cX0_run 416 = .ok (.ireturn, 1) := by decide +kernel
theorem dX0_run_417 : decode cX0_run 417 = .ok (.bipush 50, 2) := by decide +kernel
theorem dX0_run_419 : decode cX0_run 419 = .ok (.aload_n 0, 1) := by decide +kernel
theorem dX0_run_420 : decode cX0_run 420 = .ok (.bipush 13, 2) := by decide +kernel
theorem dX0_run_422 : decode cX0_run 422 = .ok (.iload_n 2, 1) := by decide +kernel
theorem dX0_run_423 : decode cX0_run 423 = .ok (.iload 4, 2) := by decide +kernel
theorem dX0_run_425 : decode cX0_run 425 = .ok (.invokevirtual 36, 3) := by decide +kernel
theorem dX0_run_428 : decode cX0_run 428 = .ok (.isub, 1) := by decide +kernel
theorem dX0_run_429 : decode cX0_run 429 = .ok (.ireturn, 1) := by decide +kernel
theorem dX0_run_430 : decode cX0_run 430 = .ok (.aload_n 0, 1) := by decide +kernel
theorem dX0_run_431 : decode cX0_run 431 = .ok (.bipush 12, 2) := by decide +kernel
theorem dX0_run_433 : decode cX0_run 433 = .ok (.iload_n 2, 1) := by decide +kernel
theorem dX0_run_434 : decode cX0_run 434 = .ok (.iload 4, 2) := by decide +kernel
theorem dX0_run_436 : decode cX0_run 436 = .ok (.invokevirtual 36, 3) := by decide +kernel
theorem dX0_run_439 : decode cX0_run 439 = .ok (.aload_n 0, 1) := by decide +kernel
theorem dX0_run_440 : decode cX0_run 440 = .ok (.aload_n 0, 1) := by decide +kernel
theorem dX0_run_441 : decode cX0_run 441 = .ok (.iconst 0, 1) := by decide +kernel
theorem dX0_run_442 : decode cX0_run 442 = .ok (.invokevirtual 32, 3) := by decide +kernel
theorem dX0_run_445 : decode cX0_run 445 = .ok (.aload_n 0, 1) := by decide +kernel
theorem dX0_run_446 : decode cX0_run 446 = .ok (.getfield 15, 3) := by decide +kernel
theorem dX0_run_449 : decode cX0_run 449 = .ok (.iload 4, 2) := by decide +kernel
theorem dX0_run_451 : decode cX0_run 451 = .ok (.invokevirtual 36, 3) := by decide +kernel
theorem dX0_run_454 : decode cX0_run 454 = .ok (.iadd, 1) := by decide +kernel
theorem dX0_run_455 : decode cX0_run 455 = .ok (.ireturn, 1) := by decide +kernel
theorem dX0_run_456 : decode cX0_run 456 = .ok (.iconst 0, 1) := by decide +kernel
theorem dX0_run_457 : decode cX0_run 457 = .ok (.ireturn, 1) := by decide +kernel
theorem dX0_part_0 : decode cX0_part 0 = .ok (.aload_n 0, 1) := by decide +kernel
theorem dX0_part_1 : decode cX0_part 1 = .ok (.getfield 22, 3) := by decide +kernel
theorem dX0_part_4 : decode cX0_part 4 = .ok (.aload_n 0, 1) := by decide +kernel
theorem dX0_part_5 : decode cX0_part 5 = .ok (.getfield 15, 3) := by decide +kernel
theorem dX0_part_8 : decode cX0_part 8 = .ok (.if_icmp .ne 10, 3) := by decide +kernel
theorem dX0_part_11 : decode cX0_part 11 = .ok (.aload_n 0, 1) := by decide +kernel
theorem dX0_part_12 : decode cX0_part 12 = .ok (.iconst 1, 1) := by decide +kernel
theorem dX0_part_13 : decode cX0_part 13 = .ok (.putfield 25, 3) := by decide +kernel
theorem dX0_part_16 : decode cX0_part 16 = .ok (.iconst 0, 1) := by decide +kernel
theorem dX0_part_17 : decode cX0_part 17 = .ok (.ireturn, 1) := by decide +kernel
theorem dX0_part_18 : decode cX0_part 18 = .ok (.iload_n 1, 1) := by decide +kernel
theorem dX0_part_19 : decode cX0_part 19 = .ok (.aload_n 0, 1) := by decide +kernel
theorem dX0_part_20 : decode cX0_part 20 = .ok (.getfield 22, 3) := by decide +kernel
theorem dX0_part_23 : decode cX0_part 23 = .ok (.aload_n 0, 1) := by decide +kernel
theorem dX0_part_24 : decode cX0_part 24 = .ok (.getfield 15, 3) := by decide +kernel
theorem dX0_part_27 : decode cX0_part 27 = .ok (.isub, 1) := by decide +kernel
theorem dX0_part_28 : decode cX0_part 28 = .ok (.idiv, 1) := by decide +kernel
theorem dX0_part_29 : decode cX0_part 29 = .ok (.ireturn, 1) := by decide +kernel
theorem dX0_forget_0 : decode cX0_forget 0 = .ok (.aload_n 0, 1) := by decide +kernel
theorem dX0_forget_1 : decode cX0_forget 1 = .ok (.iconst 0, 1) := by decide +kernel
theorem dX0_forget_2 : decode cX0_forget 2 = .ok (.putfield 50, 3) := by decide +kernel
theorem dX0_forget_5 : decode cX0_forget 5 = .ok (.return_, 1) := by decide +kernel
theorem dX0_note_0 : decode cX0_note 0 = .ok (.aload_n 0, 1) := by decide +kernel
theorem dX0_note_1 : decode cX0_note 1 = .ok (.getfield 50, 3) := by decide +kernel
theorem dX0_note_4 : decode cX0_note 4 = .ok (.bipush 30, 2) := by decide +kernel
theorem dX0_note_6 : decode cX0_note 6 = .ok (.if_icmp .ge 23, 3) := by decide +kernel
theorem dX0_note_9 : decode cX0_note 9 = .ok (.aload_n 0, 1) := by decide +kernel
theorem dX0_note_10 : decode cX0_note 10 = .ok (.getfield 9, 3) := by decide +kernel
theorem dX0_note_13 : decode cX0_note 13 = .ok (.aload_n 0, 1) := by decide +kernel
theorem dX0_note_14 : decode cX0_note 14 = .ok (.getfield 50, 3) := by decide +kernel
theorem dX0_note_17 : decode cX0_note 17 = .ok (.iload_n 1, 1) := by decide +kernel
theorem dX0_note_18 : decode cX0_note 18 = .ok (.iastore, 1) := by decide +kernel
theorem dX0_note_19 : decode cX0_note 19 = .ok (.aload_n 0, 1) := by decide +kernel
theorem dX0_note_20 : decode cX0_note 20 = .ok (.dup, 1) := by decide +kernel
theorem dX0_note_21 : decode cX0_note 21 = .ok (.getfield 50, 3) := by decide +kernel
theorem dX0_note_24 : decode cX0_note 24 = .ok (.iconst 1, 1) := by decide +kernel
theorem dX0_note_25 : decode cX0_note 25 = .ok (.iadd, 1) := by decide +kernel
theorem dX0_note_26 : decode cX0_note 26 = .ok (.putfield 50, 3) := by decide +kernel
theorem dX0_note_29 : decode cX0_note 29 = .ok (.return_, 1) := by decide +kernel
theorem dX1_init_0 : decode cX1_init 0 = .ok (.aload_n 0, 1) := by decide +kernel
theorem dX1_init_1 : decode cX1_init 1 = .ok (.invokespecial 3, 3) := by decide +kernel
theorem dX1_init_4 : decode cX1_init 4 = .ok (.aload_n 0, 1) := by decide +kernel
theorem dX1_init_5 : decode cX1_init 5 = .ok (.iconst 4, 1) := by decide +kernel
theorem dX1_init_6 : decode cX1_init 6 = .ok (.newarray .int, 2) := by decide +kernel
theorem dX1_init_8 : decode cX1_init 8 = .ok (.putfield 9, 3) := by decide +kernel
theorem dX1_init_11 : decode cX1_init 11 = .ok (.aload_n 0, 1) := by decide +kernel
theorem dX1_init_12 : decode cX1_init 12 = .ok (.bipush 32, 2) := by decide +kernel
theorem dX1_init_14 : decode cX1_init 14 = .ok (.newarray .int, 2) := by decide +kernel
theorem dX1_init_16 : decode cX1_init 16 = .ok (.putfield 15, 3) := by decide +kernel
theorem dX1_init_19 : decode cX1_init 19 = .ok (.aload_n 0, 1) := by decide +kernel
theorem dX1_init_20 : decode cX1_init 20 = .ok (.bipush 32, 2) := by decide +kernel
theorem dX1_init_22 : decode cX1_init 22 = .ok (.newarray .int, 2) := by decide +kernel
theorem dX1_init_24 : decode cX1_init 24 = .ok (.putfield 18, 3) := by decide +kernel
theorem dX1_init_27 : decode cX1_init 27 = .ok (.aload_n 0, 1) := by decide +kernel
theorem dX1_init_28 : decode cX1_init 28 = .ok (.bipush 32, 2) := by decide +kernel
theorem dX1_init_30 : decode cX1_init 30 = .ok (.newarray .int, 2) := by decide +kernel
theorem dX1_init_32 : decode cX1_init 32 = .ok (.putfield 21, 3) := by decide +kernel
theorem dX1_init_35 : decode cX1_init 35 = .ok (.aload_n 0, 1) := by decide +kernel
theorem dX1_init_36 : decode cX1_init 36 = .ok (.bipush 8, 2) := by decide +kernel
theorem dX1_init_38 : decode cX1_init 38 = .ok (.newarray .int, 2) := by decide +kernel
theorem dX1_init_40 : decode cX1_init 40 = .ok (.putfield 24, 3) := by decide +kernel
theorem dX1_init_43 : decode cX1_init 43 = .ok (.aload_n 0, 1) := by decide +kernel
theorem dX1_init_44 : decode cX1_init 44 = .ok (.bipush 8, 2) := by decide +kernel
theorem dX1_init_46 : decode cX1_init 46 = .ok (.newarray .int, 2) := by decide +kernel
theorem dX1_init_48 : decode cX1_init 48 = .ok (.putfield 27, 3) := by decide +kernel
theorem dX1_init_51 : decode cX1_init 51 = .ok (.aload_n 0, 1) := by decide +kernel
theorem dX1_init_52 : decode cX1_init 52 = .ok (.bipush 8, 2) := by decide +kernel
theorem dX1_init_54 : decode cX1_init 54 = .ok (.newarray .int, 2) := by decide +kernel
theorem dX1_init_56 : decode cX1_init 56 = .ok (.putfield 30, 3) := by decide +kernel
theorem dX1_init_59 : decode cX1_init 59 = .ok (.aload_n 0, 1) := by decide +kernel
theorem dX1_init_60 : decode cX1_init 60 = .ok (.bipush 8, 2) := by decide +kernel
theorem dX1_init_62 : decode cX1_init 62 = .ok (.newarray .int, 2) := by decide +kernel
theorem dX1_init_64 : decode cX1_init 64 = .ok (.putfield 33, 3) := by decide +kernel
theorem dX1_init_67 : decode cX1_init 67 = .ok (.aload_n 0, 1) := by decide +kernel
theorem dX1_init_68 : decode cX1_init 68 = .ok (.iconst 1, 1) := by decide +kernel
theorem dX1_init_69 : decode cX1_init 69 = .ok (.putfield 36, 3) := by decide +kernel
theorem dX1_init_72 : decode cX1_init 72 = .ok (.aload_n 0, 1) := by decide +kernel
theorem dX1_init_73 : decode cX1_init 73 = .ok (.invokevirtual 40, 3) := by decide +kernel
theorem dX1_init_76 : decode cX1_init 76 = .ok (.return_, 1) := by decide +kernel
theorem dX1_clear_0 : decode cX1_clear 0 = .ok (.iconst 0, 1) := by decide +kernel
theorem dX1_clear_1 : decode cX1_clear 1 = .ok (.istore_n 1, 1) := by decide +kernel
theorem dX1_clear_2 : decode cX1_clear 2 = .ok (.iload_n 1, 1) := by decide +kernel
theorem dX1_clear_3 : decode cX1_clear 3 = .ok (.iconst 4, 1) := by decide +kernel
theorem dX1_clear_4 : decode cX1_clear 4 = .ok (.if_icmp .ge 20, 3) := by decide +kernel
theorem dX1_clear_7 : decode cX1_clear 7 = .ok (.aload_n 0, 1) := by decide +kernel
theorem dX1_clear_8 : decode cX1_clear 8 = .ok (.getfield 9, 3) := by decide +kernel
theorem dX1_clear_11 : decode cX1_clear 11 = .ok (.iload_n 1, 1) := by decide +kernel
theorem dX1_clear_12 : decode cX1_clear 12 = .ok (.getstatic 43, 3) := by decide +kernel
theorem dX1_clear_15 : decode cX1_clear 15 = .ok (.iload_n 1, 1) := by decide +kernel
theorem dX1_clear_16 : decode cX1_clear 16 = .ok (.iaload, 1) := by decide +kernel
theorem dX1_clear_17 : decode cX1_clear 17 = .ok (.iastore, 1) := by decide +kernel
theorem dX1_clear_18 : decode cX1_clear 18 = .ok (.iinc 1 1, 3) := by decide +kernel
theorem dX1_clear_21 : decode cX1_clear 21 = .ok (.goto (-19), 3) := by decide +kernel
theorem dX1_clear_24 : decode cX1_clear 24 = .ok (.iconst 0, 1) := by decide +kernel
theorem dX1_clear_25 : decode cX1_clear 25 = .ok (.istore_n 1, 1) := by decide +kernel
theorem dX1_clear_26 : decode cX1_clear 26 = .ok (.iload_n 1, 1) := by decide +kernel
theorem dX1_clear_27 : decode cX1_clear 27 = .ok (.bipush 32, 2) := by decide +kernel
theorem dX1_clear_29 : decode cX1_clear 29 = .ok (.if_icmp .ge 30, 3) := by decide +kernel
theorem dX1_clear_32 : decode cX1_clear 32 = .ok (.aload_n 0, 1) := by decide +kernel
theorem dX1_clear_33 : decode cX1_clear 33 = .ok (.getfield 15, 3) := by decide +kernel
theorem dX1_clear_36 : decode cX1_clear 36 = .ok (.iload_n 1, 1) := by decide +kernel
theorem dX1_clear_37 : decode cX1_clear 37 = .ok (.iconst 5, 1) := by decide +kernel
theorem dX1_clear_38 : decode cX1_clear 38 = .ok (.iastore, 1) := by decide +kernel
theorem dX1_clear_39 : decode cX1_clear 39 = .ok (.aload_n 0, 1) := by decide +kernel
theorem dX1_clear_40 : decode cX1_clear 40 = .ok (.getfield 18, 3) := by decide +kernel
theorem dX1_clear_43 : decode cX1_clear 43 = .ok (.iload_n 1, 1) := by decide +kernel
theorem dX1_clear_44 : decode cX1_clear 44 = .ok (.iconst 0, 1) := by decide +kernel
theorem dX1_clear_45 : decode cX1_clear 45 = .ok (.iastore, 1) := by decide +kernel
theorem dX1_clear_46 : decode cX1_clear 46 = .ok (.aload_n 0, 1) := by decide +kernel
theorem dX1_clear_47 : decode cX1_clear 47 = .ok (.getfield 21, 3) := by decide +kernel
theorem dX1_clear_50 : decode cX1_clear 50 = .ok (.iload_n 1, 1) := by decide +kernel
theorem dX1_clear_51 : decode cX1_clear 51 = .ok (.iconst (-1), 1) := by decide +kernel
theorem dX1_clear_52 : decode cX1_clear 52 = .ok (.iastore, 1) := by decide +kernel
theorem dX1_clear_53 : decode cX1_clear 53 = .ok (.iinc 1 1, 3) := by decide +kernel
theorem dX1_clear_56 : decode cX1_clear 56 = .ok (.goto (-30), 3) := by decide +kernel
theorem dX1_clear_59 : decode cX1_clear 59 = .ok (.aload_n 0, 1) := by decide +kernel
theorem dX1_clear_60 : decode cX1_clear 60 = .ok (.iconst 0, 1) := by decide +kernel
theorem dX1_clear_61 : decode cX1_clear 61 = .ok (.putfield 46, 3) := by decide +kernel
theorem dX1_clear_64 : decode cX1_clear 64 = .ok (.aload_n 0, 1) := by decide +kernel
theorem dX1_clear_65 : decode cX1_clear 65 = .ok (.iconst 0, 1) := by decide +kernel
theorem dX1_clear_66 : decode cX1_clear 66 = .ok (.putfield 49, 3) := by decide +kernel
theorem dX1_clear_69 : decode cX1_clear 69 = .ok (.aload_n 0, 1) := by decide +kernel
theorem dX1_clear_70 : decode cX1_clear 70 = .ok (.iconst 0, 1) := by decide +kernel
theorem dX1_clear_71 : decode cX1_clear 71 = .ok (.putfield 52, 3) := by decide +kernel
theorem dX1_clear_74 : decode cX1_clear 74 = .ok (.return_, 1) := by decide +kernel
theorem dX1_become_0 : decode cX1_become 0 = .ok (.aload_n 1, 1) := by decide +kernel
theorem dX1_become_1 : decode cX1_become 1 = .ok (.getfield 9, 3) := by decide +kernel
theorem dX1_become_4 : decode cX1_become 4 = .ok (.iconst 0, 1) := by decide +kernel
theorem dX1_become_5 : decode cX1_become 5 = .ok (.aload_n 0, 1) := by decide +kernel
theorem dX1_become_6 : decode cX1_become 6 = .ok (.getfield 9, 3) := by decide +kernel
theorem dX1_become_9 : decode cX1_become 9 = .ok (.iconst 0, 1) := by decide +kernel
theorem dX1_become_10 : decode cX1_become 10 = .ok (.iconst 4, 1) := by decide +kernel
theorem dX1_become_11 : decode cX1_become 11 = .ok (.invokestatic 55, 3) := by decide +kernel
theorem dX1_become_14 : decode cX1_become 14 = .ok (.aload_n 1, 1) := by decide +kernel
theorem dX1_become_15 : decode cX1_become 15 = .ok (.getfield 15, 3) := by decide +kernel
theorem dX1_become_18 : decode cX1_become 18 = .ok (.iconst 0, 1) := by decide +kernel
theorem dX1_become_19 : decode cX1_become 19 = .ok (.aload_n 0, 1) := by decide +kernel
theorem dX1_become_20 : decode cX1_become 20 = .ok (.getfield 15, 3) := by decide +kernel
theorem dX1_become_23 : decode cX1_become 23 = .ok (.iconst 0, 1) := by decide +kernel
theorem dX1_become_24 : decode cX1_become 24 = .ok (.bipush 32, 2) := by decide +kernel
theorem dX1_become_26 : decode cX1_become 26 = .ok (.invokestatic 55, 3) := by decide +kernel
theorem dX1_become_29 : decode cX1_become 29 = .ok (.aload_n 1, 1) := by decide +kernel
theorem dX1_become_30 : decode cX1_become 30 = .ok (.getfield 18, 3) := by decide +kernel
theorem dX1_become_33 : decode cX1_become 33 = .ok (.iconst 0, 1) := by decide +kernel
theorem dX1_become_34 : decode cX1_become 34 = .ok (.aload_n 0, 1) := by decide +kernel
theorem dX1_become_35 : decode cX1_become 35 = .ok (.getfield 18, 3) := by decide +kernel
theorem dX1_become_38 : decode cX1_become 38 = .ok (.iconst 0, 1) := by decide +kernel
theorem dX1_become_39 : decode cX1_become 39 = .ok (.bipush 32, 2) := by decide +kernel
theorem dX1_become_41 : decode cX1_become 41 = .ok (.invokestatic 55, 3) := by decide +kernel
theorem dX1_become_44 : decode cX1_become 44 = .ok (.aload_n 1, 1) := by decide +kernel
theorem dX1_become_45 : decode cX1_become 45 = .ok (.getfield 21, 3) := by decide +kernel
theorem dX1_become_48 : decode cX1_become 48 = .ok (.iconst 0, 1) := by decide +kernel
theorem dX1_become_49 : decode cX1_become 49 = .ok (.aload_n 0, 1) := by decide +kernel
theorem dX1_become_50 : decode cX1_become 50 = .ok (.getfield 21, 3) := by decide +kernel
theorem dX1_become_53 : decode cX1_become 53 = .ok (.iconst 0, 1) := by decide +kernel
theorem dX1_become_54 : decode cX1_become 54 = .ok (.bipush 32, 2) := by decide +kernel
theorem dX1_become_56 : decode cX1_become 56 = .ok (.invokestatic 55, 3) := by decide +kernel
theorem dX1_become_59 : decode cX1_become 59 = .ok (.aload_n 1, 1) := by decide +kernel
theorem dX1_become_60 : decode cX1_become 60 = .ok (.getfield 24, 3) := by decide +kernel
theorem dX1_become_63 : decode cX1_become 63 = .ok (.iconst 0, 1) := by decide +kernel
theorem dX1_become_64 : decode cX1_become 64 = .ok (.aload_n 0, 1) := by decide +kernel
theorem dX1_become_65 : decode cX1_become 65 = .ok (.getfield 24, 3) := by decide +kernel
theorem dX1_become_68 : decode cX1_become 68 = .ok (.iconst 0, 1) := by decide +kernel
theorem dX1_become_69 : decode cX1_become 69 = .ok (.bipush 8, 2) := by decide +kernel
theorem dX1_become_71 : decode cX1_become 71 = .ok (.invokestatic 55, 3) := by decide +kernel
theorem dX1_become_74 : decode cX1_become 74 = .ok (.aload_n 1, 1) := by decide +kernel
theorem dX1_become_75 : decode cX1_become 75 = .ok (.getfield 27, 3) := by decide +kernel
theorem dX1_become_78 : decode cX1_become 78 = .ok (.iconst 0, 1) := by decide +kernel
theorem dX1_become_79 : decode cX1_become 79 = .ok (.aload_n 0, 1) := by decide +kernel
theorem dX1_become_80 : decode cX1_become 80 = .ok (.getfield 27, 3) := by decide +kernel
theorem dX1_become_83 : decode cX1_become 83 = .ok (.iconst 0, 1) := by decide +kernel
theorem dX1_become_84 : decode cX1_become 84 = .ok (.bipush 8, 2) := by decide +kernel
theorem dX1_become_86 : decode cX1_become 86 = .ok (.invokestatic 55, 3) := by decide +kernel
theorem dX1_become_89 : decode cX1_become 89 = .ok (.aload_n 1, 1) := by decide +kernel
theorem dX1_become_90 : decode cX1_become 90 = .ok (.getfield 30, 3) := by decide +kernel
theorem dX1_become_93 : decode cX1_become 93 = .ok (.iconst 0, 1) := by decide +kernel
theorem dX1_become_94 : decode cX1_become 94 = .ok (.aload_n 0, 1) := by decide +kernel
theorem dX1_become_95 : decode cX1_become 95 = .ok (.getfield 30, 3) := by decide +kernel
theorem dX1_become_98 : decode cX1_become 98 = .ok (.iconst 0, 1) := by decide +kernel
theorem dX1_become_99 : decode cX1_become 99 = .ok (.bipush 8, 2) := by decide +kernel
theorem dX1_become_101 : decode cX1_become 101 = .ok (.invokestatic 55, 3) := by decide +kernel
theorem dX1_become_104 : decode cX1_become 104 = .ok (.aload_n 1, 1) := by decide +kernel
theorem dX1_become_105 : decode cX1_become 105 = .ok (.getfield 33, 3) := by decide +kernel
theorem dX1_become_108 : decode cX1_become 108 = .ok (.iconst 0, 1) := by decide +kernel
theorem dX1_become_109 : decode cX1_become 109 = .ok (.aload_n 0, 1) := by decide +kernel
theorem dX1_become_110 : decode cX1_become 110 = .ok (.getfield 33, 3) := by decide +kernel
theorem dX1_become_113 : decode cX1_become 113 = .ok (.iconst 0, 1) := by decide +kernel
theorem dX1_become_114 : decode cX1_become 114 = .ok (.bipush 8, 2) := by decide +kernel
theorem dX1_become_116 : decode cX1_become 116 = .ok (.invokestatic 55, 3) := by decide +kernel
theorem dX1_become_119 : decode cX1_become 119 = .ok (.aload_n 0, 1) := by decide +kernel
theorem dX1_become_120 : decode cX1_become 120 = .ok (.aload_n 1, 1) := by decide +kernel
theorem dX1_become_121 : decode cX1_become 121 = .ok (.getfield 46, 3) := by decide +kernel
theorem dX1_become_124 : decode cX1_become 124 = .ok (.putfield 46, 3) := by decide +kernel
theorem dX1_become_127 : decode cX1_become 127 = .ok (.aload_n 0, 1) := by decide +kernel
theorem dX1_become_128 : decode cX1_become 128 = .ok (.aload_n 1, 1) := by decide +kernel
theorem dX1_become_129 : decode cX1_become 129 = .ok (.getfield 36, 3) := by decide +kernel
theorem dX1_become_132 : decode cX1_become 132 = .ok (.putfield 36, 3) := by decide +kernel
theorem dX1_become_135 : decode cX1_become 135 = .ok (.aload_n 0, 1) := by decide +kernel
theorem dX1_become_136 : decode cX1_become 136 = .ok (.aload_n 1, 1) := by decide +kernel
theorem dX1_become_137 : decode cX1_become 137 = .ok (.getfield 49, 3) := by decide +kernel
theorem dX1_become_140 : decode cX1_become 140 = .ok (.putfield 49, 3) := by decide +kernel
theorem dX1_become_143 : decode cX1_become 143 = .ok (.aload_n 0, 1) := by decide +kernel
theorem dX1_become_144 : decode cX1_become 144 = .ok (.aload_n 1, 1) := by decide +kernel
theorem dX1_become_145 : decode cX1_become 145 = .ok (.getfield 52, 3) := by decide +kernel
theorem dX1_become_148 : decode cX1_become 148 = .ok (.putfield 52, 3) := by decide +kernel
theorem dX1_become_151 : decode cX1_become 151 = .ok (.return_, 1) := by decide +kernel
theorem dX1_comes_0 : decode cX1_comes 0 = .ok (.aload_n 0, 1) := by decide +kernel
theorem dX1_comes_1 : decode cX1_comes 1 = .ok (.getfield 49, 3) := by decide +kernel
theorem dX1_comes_4 : decode cX1_comes 4 = .ok (.bipush 8, 2) := by decide +kernel
theorem dX1_comes_6 : decode cX1_comes 6 = .ok (.if_icmp .lt 6, 3) := by decide +kernel
theorem dX1_comes_9 : decode cX1_comes 9 = .ok (.bipush (-2), 2) := by decide +kernel
theorem dX1_comes_11 : decode cX1_comes 11 = .ok (.ireturn, 1) := by decide +kernel
theorem dX1_comes_12 : decode cX1_comes 12 = .ok (.aload_n 0, 1) := by decide +kernel
theorem dX1_comes_13 : decode cX1_comes 13 = .ok (.getfield 24, 3) := by decide +kernel
theorem dX1_comes_16 : decode cX1_comes 16 = .ok (.aload_n 0, 1) := by decide +kernel
theorem dX1_comes_17 : decode cX1_comes 17 = .ok (.getfield 49, 3) := by decide +kernel
theorem dX1_comes_20 : decode cX1_comes 20 = .ok (.iload_n 1, 1) := by decide +kernel
theorem dX1_comes_21 : decode cX1_comes 21 = .ok (.iastore, 1) := by decide +kernel
theorem dX1_comes_22 : decode cX1_comes 22 = .ok (.aload_n 0, 1) := by decide +kernel
theorem dX1_comes_23 : decode cX1_comes 23 = .ok (.getfield 27, 3) := by decide +kernel
theorem dX1_comes_26 : decode cX1_comes 26 = .ok (.aload_n 0, 1) := by decide +kernel
theorem dX1_comes_27 : decode cX1_comes 27 = .ok (.getfield 49, 3) := by decide +kernel
theorem dX1_comes_30 : decode cX1_comes 30 = .ok (.iload_n 2, 1) := by decide +kernel
theorem dX1_comes_31 : decode cX1_comes 31 = .ok (.iastore, 1) := by decide +kernel
theorem dX1_comes_32 : decode cX1_comes 32 = .ok (.aload_n 0, 1) := by decide +kernel
theorem dX1_comes_33 : decode cX1_comes 33 = .ok (.getfield 30, 3) := by decide +kernel
theorem dX1_comes_36 : decode cX1_comes 36 = .ok (.aload_n 0, 1) := by decide +kernel
theorem dX1_comes_37 : decode cX1_comes 37 = .ok (.getfield 49, 3) := by decide +kernel
theorem dX1_comes_40 : decode cX1_comes 40 = .ok (.iload_n 3, 1) := by decide +kernel
theorem dX1_comes_41 : decode cX1_comes 41 = .ok (.iastore, 1) := by decide +kernel
theorem dX1_comes_42 : decode cX1_comes 42 = .ok (.aload_n 0, 1) := by decide +kernel
theorem dX1_comes_43 : decode cX1_comes 43 = .ok (.getfield 33, 3) := by decide +kernel
theorem dX1_comes_46 : decode cX1_comes 46 = .ok (.aload_n 0, 1) := by decide +kernel
theorem dX1_comes_47 : decode cX1_comes 47 = .ok (.getfield 49, 3) := by decide +kernel
theorem dX1_comes_50 : decode cX1_comes 50 = .ok (.iload 4, 2) := by decide +kernel
theorem dX1_comes_52 : decode cX1_comes 52 = .ok (.iastore, 1) := by decide +kernel
theorem dX1_comes_53 : decode cX1_comes 53 = .ok (.aload_n 0, 1) := by decide +kernel
theorem dX1_comes_54 : decode cX1_comes 54 = .ok (.dup, 1) := by decide +kernel
theorem dX1_comes_55 : decode cX1_comes 55 = .ok (.getfield 49, 3) := by decide +kernel
theorem dX1_comes_58 : decode cX1_comes 58 = .ok (.iconst 1, 1) := by decide +kernel
theorem dX1_comes_59 : decode cX1_comes 59 = .ok (.iadd, 1) := by decide +kernel
theorem dX1_comes_60 : decode cX1_comes 60 = .ok (.putfield 49, 3) := by decide +kernel
theorem dX1_comes_63 : decode cX1_comes 63 = .ok (.aload_n 0, 1) := by decide +kernel
theorem dX1_comes_64 : decode cX1_comes 64 = .ok (.getfield 49, 3) := by decide +kernel
theorem dX1_comes_67 : decode cX1_comes 67 = .ok (.iconst 1, 1) := by decide +kernel
theorem dX1_comes_68 : decode cX1_comes 68 = .ok (.isub, 1) := by decide +kernel
theorem dX1_comes_69 : decode cX1_comes 69 = .ok (.ireturn, 1) := by decide +kernel
theorem dX1_raise_0 : decode cX1_raise 0 = .ok (.aload_n 0, 1) := by decide +kernel
theorem dX1_raise_1 : decode cX1_raise 1 = .ok (.getfield 15, 3) := by decide +kernel
theorem dX1_raise_4 : decode cX1_raise 4 = .ok (.iload_n 1, 1) := by decide +kernel
theorem dX1_raise_5 : decode cX1_raise 5 = .ok (.iload_n 2, 1) := by decide +kernel
theorem dX1_raise_6 : decode cX1_raise 6 = .ok (.iastore, 1) := by decide +kernel
theorem dX1_raise_7 : decode cX1_raise 7 = .ok (.iconst 0, 1) := by decide +kernel
theorem dX1_raise_8 : decode cX1_raise 8 = .ok (.istore_n 3, 1) := by decide +kernel
theorem dX1_raise_9 : decode cX1_raise 9 = .ok (.iload_n 3, 1) := by decide +kernel
theorem dX1_raise_10 : decode cX1_raise 10 = .ok (.bipush 32, 2) := by decide +kernel
theorem dX1_raise_12 : decode cX1_raise 12 = .ok (.if_icmp .ge 20, 3) := by decide +kernel
theorem dX1_raise_15 : decode cX1_raise 15 = .ok (.aload_n 0, 1) := by decide +kernel
theorem dX1_raise_16 : decode cX1_raise 16 = .ok (.getfield 21, 3) := by decide +kernel
theorem dX1_raise_19 : decode cX1_raise 19 = .ok (.iload_n 3, 1) := by decide +kernel
theorem dX1_raise_20 : decode cX1_raise 20 = .ok (.aload_n 0, 1) := by decide +kernel
theorem dX1_raise_21 : decode cX1_raise 21 = .ok (.iload_n 3, 1) := by decide +kernel
theorem dX1_raise_22 : decode cX1_raise 22 = .ok (.invokevirtual 61, 3) := by decide +kernel
theorem dX1_raise_25 : decode cX1_raise 25 = .ok (.iastore, 1) := by decide +kernel
theorem dX1_raise_26 : decode cX1_raise 26 = .ok (.iinc 3 1, 3) := by decide +kernel
theorem dX1_raise_29 : decode cX1_raise 29 = .ok (.goto (-20), 3) := by decide +kernel
theorem dX1_raise_32 : decode cX1_raise 32 = .ok (.return_, 1) := by decide +kernel
theorem dX1_lowestBeside_0 : decode cX1_lowestBeside 0 = .ok (.iload_n 1, 1) := by decide +kernel
theorem dX1_lowestBeside_1 : decode cX1_lowestBeside 1 = .ok (.istore_n 2, 1) := by decide +kernel
theorem dX1_lowestBeside_2 : decode cX1_lowestBeside 2 = .ok (.iload_n 1, 1) := by decide +kernel
theorem dX1_lowestBeside_3 : decode cX1_lowestBeside 3 = .ok (.bipush 8, 2) := by decide +kernel
theorem dX1_lowestBeside_5 : decode cX1_lowestBeside 5 = .ok (.if_icmp .lt 13, 3) := by decide +kernel
theorem dX1_lowestBeside_8 : decode cX1_lowestBeside 8 = .ok (.aload_n 0, 1) := by decide +kernel
theorem dX1_lowestBeside_9 : decode cX1_lowestBeside 9 = .ok (.iload_n 2, 1) := by decide +kernel
theorem dX1_lowestBeside_10 : decode cX1_lowestBeside 10 = .ok (.iload_n 1, 1) := by decide +kernel
theorem dX1_lowestBeside_11 : decode cX1_lowestBeside 11 = .ok (.bipush 8, 2) := by decide +kernel
theorem dX1_lowestBeside_13 : decode cX1_lowestBeside 13 = .ok (.isub, 1) := by decide +kernel
theorem dX1_lowestBeside_14 : decode cX1_lowestBeside 14 = .ok (.invokevirtual 65, 3) := by decide +kernel
theorem dX1_lowestBeside_17 : decode cX1_lowestBeside 17 = .ok (.istore_n 2, 1) := by decide +kernel
theorem dX1_lowestBeside_18 : decode cX1_lowestBeside 18 = .ok (.iload_n 1, 1) := by decide +kernel
theorem dX1_lowestBeside_19 : decode cX1_lowestBeside 19 = .ok (.bipush 8, 2) := by decide +kernel
theorem dX1_lowestBeside_21 : decode cX1_lowestBeside 21 = .ok (.irem, 1) := by decide +kernel
theorem dX1_lowestBeside_22 : decode cX1_lowestBeside 22 = .ok (.ifCond .le 12, 3) := by decide +kernel
theorem dX1_lowestBeside_25 : decode cX1_lowestBeside 25 = .ok (.aload_n 0, 1) := by decide +kernel
theorem dX1_lowestBeside_26 : decode cX1_lowestBeside 26 = .ok (.iload_n 2, 1) := by decide +kernel
theorem dX1_lowestBeside_27 : decode cX1_lowestBeside 27 = .ok (.iload_n 1, 1) := by decide +kernel
theorem dX1_lowestBeside_28 : decode cX1_lowestBeside 28 = .ok (.iconst 1, 1) := by decide +kernel
theorem dX1_lowestBeside_29 : decode cX1_lowestBeside 29 = .ok (.isub, 1) := by decide +kernel
theorem dX1_lowestBeside_30 : decode cX1_lowestBeside 30 = .ok (.invokevirtual 65, 3) := by decide +kernel
theorem dX1_lowestBeside_33 : decode cX1_lowestBeside 33 = .ok (.istore_n 2, 1) := by decide +kernel
theorem dX1_lowestBeside_34 : decode cX1_lowestBeside 34 = .ok (.iload_n 1, 1) := by decide +kernel
theorem dX1_lowestBeside_35 : decode cX1_lowestBeside 35 = .ok (.bipush 8, 2) := by decide +kernel
theorem dX1_lowestBeside_37 : decode cX1_lowestBeside 37 = .ok (.irem, 1) := by decide +kernel
theorem dX1_lowestBeside_38 : decode cX1_lowestBeside 38 = .ok (.bipush 7, 2) := by decide +kernel
theorem dX1_lowestBeside_40 : decode cX1_lowestBeside 40 = .ok (.if_icmp .ge 12, 3) := by decide +kernel
theorem dX1_lowestBeside_43 : decode cX1_lowestBeside 43 = .ok (.aload_n 0, 1) := by decide +kernel
theorem dX1_lowestBeside_44 : decode cX1_lowestBeside 44 = .ok (.iload_n 2, 1) := by decide +kernel
theorem dX1_lowestBeside_45 : decode cX1_lowestBeside 45 = .ok (.iload_n 1, 1) := by decide +kernel
theorem dX1_lowestBeside_46 : decode cX1_lowestBeside 46 = .ok (.iconst 1, 1) := by decide +kernel
theorem dX1_lowestBeside_47 : decode cX1_lowestBeside 47 = .ok (.iadd, 1) := by decide +kernel
theorem dX1_lowestBeside_48 : decode cX1_lowestBeside 48 = .ok (.invokevirtual 65, 3) := by decide +kernel
theorem dX1_lowestBeside_51 : decode cX1_lowestBeside 51 = .ok (.istore_n 2, 1) := by decide +kernel
theorem dX1_lowestBeside_52 : decode cX1_lowestBeside 52 = .ok (.iload_n 1, 1) := by decide +kernel
theorem dX1_lowestBeside_53 : decode cX1_lowestBeside 53 = .ok (.bipush 24, 2) := by decide +kernel
theorem dX1_lowestBeside_55 : decode cX1_lowestBeside 55 = .ok (.if_icmp .ge 13, 3) := by decide +kernel
theorem dX1_lowestBeside_58 : decode cX1_lowestBeside 58 = .ok (.aload_n 0, 1) := by decide +kernel
theorem dX1_lowestBeside_59 : decode cX1_lowestBeside 59 = .ok (.iload_n 2, 1) := by decide +kernel
theorem dX1_lowestBeside_60 : decode cX1_lowestBeside 60 = .ok (.iload_n 1, 1) := by decide +kernel
theorem dX1_lowestBeside_61 : decode cX1_lowestBeside 61 = .ok (.bipush 8, 2) := by decide +kernel
theorem dX1_lowestBeside_63 : decode cX1_lowestBeside 63 = .ok (.iadd, 1) := by decide +kernel
theorem dX1_lowestBeside_64 : decode cX1_lowestBeside 64 = .ok (.invokevirtual 65, 3) := by decide +kernel
theorem dX1_lowestBeside_67 : decode cX1_lowestBeside 67 = .ok (.istore_n 2, 1) := by decide +kernel
theorem dX1_lowestBeside_68 : decode cX1_lowestBeside 68 = .ok (.iload_n 2, 1) := by decide +kernel
theorem dX1_lowestBeside_69 : decode cX1_lowestBeside 69 = .ok (.iload_n 1, 1) := by decide +kernel
theorem dX1_lowestBeside_70 : decode cX1_lowestBeside 70 = .ok (.if_icmp .ne 7, 3) := by decide +kernel
theorem dX1_lowestBeside_73 : decode cX1_lowestBeside 73 = .ok (.iconst (-1), 1) := by decide +kernel
theorem dX1_lowestBeside_74 : decode cX1_lowestBeside 74 = .ok (.goto 4, 3) := by decide +kernel
theorem dX1_lowestBeside_77 : decode cX1_lowestBeside 77 = .ok (.iload_n 2, 1) := by decide +kernel
theorem dX1_lowestBeside_78 : decode cX1_lowestBeside 78 = .ok (.ireturn, 1) := by decide +kernel
theorem dX1_lower_0 : decode cX1_lower 0 = .ok (.aload_n 0, 1) := by decide +kernel
theorem dX1_lower_1 : decode cX1_lower 1 = .ok (.getfield 15, 3) := by decide +kernel
theorem dX1_lower_4 : decode cX1_lower 4 = .ok (.iload_n 2, 1) := by decide +kernel
theorem dX1_lower_5 : decode cX1_lower 5 = .ok (.iaload, 1) := by decide +kernel
theorem dX1_lower_6 : decode cX1_lower 6 = .ok (.aload_n 0, 1) := by decide +kernel
theorem dX1_lower_7 : decode cX1_lower 7 = .ok (.getfield 15, 3) := by decide +kernel
theorem dX1_lower_10 : decode cX1_lower 10 = .ok (.iload_n 1, 1) := by decide +kernel
theorem dX1_lower_11 : decode cX1_lower 11 = .ok (.iaload, 1) := by decide +kernel
theorem dX1_lower_12 : decode cX1_lower 12 = .ok (.if_icmp .ge 7, 3) := by decide +kernel
theorem dX1_lower_15 : decode cX1_lower 15 = .ok (.iload_n 2, 1) := by decide +kernel
theorem dX1_lower_16 : decode cX1_lower 16 = .ok (.goto 4, 3) := by decide +kernel
theorem dX1_lower_19 : decode cX1_lower 19 = .ok (.iload_n 1, 1) := by decide +kernel
theorem dX1_lower_20 : decode cX1_lower 20 = .ok (.ireturn, 1) := by decide +kernel
theorem dX1_isWet_0 : decode cX1_isWet 0 = .ok (.aload_n 0, 1) := by decide +kernel
theorem dX1_isWet_1 : decode cX1_isWet 1 = .ok (.getfield 18, 3) := by decide +kernel
theorem dX1_isWet_4 : decode cX1_isWet 4 = .ok (.iload_n 1, 1) := by decide +kernel
theorem dX1_isWet_5 : decode cX1_isWet 5 = .ok (.iaload, 1) := by decide +kernel
theorem dX1_isWet_6 : decode cX1_isWet 6 = .ok (.bipush 10, 2) := by decide +kernel
theorem dX1_isWet_8 : decode cX1_isWet 8 = .ok (.if_icmp .lt 7, 3) := by decide +kernel
theorem dX1_isWet_11 : decode cX1_isWet 11 = .ok (.iconst 1, 1) := by decide +kernel
theorem dX1_isWet_12 : decode cX1_isWet 12 = .ok (.goto 4, 3) := by decide +kernel
theorem dX1_isWet_15 : decode cX1_isWet 15 = .ok (.iconst 0, 1) := by decide +kernel
theorem dX1_isWet_16 : decode cX1_isWet 16 = .ok (.ireturn, 1) := by decide +kernel
theorem dX1_isLost_0 : decode cX1_isLost 0 = .ok (.aload_n 0, 1) := by decide +kernel
theorem dX1_isLost_1 : decode cX1_isLost 1 = .ok (.getfield 30, 3) := by decide +kernel
theorem dX1_isLost_4 : decode cX1_isLost 4 = .ok (.iload_n 1, 1) := by decide +kernel
theorem dX1_isLost_5 : decode cX1_isLost 5 = .ok (.iaload, 1) := by decide +kernel
theorem dX1_isLost_6 : decode cX1_isLost 6 = .ok (.ifCond .ne 7, 3) := by decide +kernel
theorem dX1_isLost_9 : decode cX1_isLost 9 = .ok (.iconst 1, 1) := by decide +kernel
theorem dX1_isLost_10 : decode cX1_isLost 10 = .ok (.goto 4, 3) := by decide +kernel
theorem dX1_isLost_13 : decode cX1_isLost 13 = .ok (.iconst 0, 1) := by decide +kernel
theorem dX1_isLost_14 : decode cX1_isLost 14 = .ok (.ireturn, 1) := by decide +kernel
theorem dX1_isIdle_0 : decode cX1_isIdle 0 = .ok (.aload_n 0, 1) := by decide +kernel
theorem dX1_isIdle_1 : decode cX1_isIdle 1 = .ok (.getfield 52, 3) := by decide +kernel
theorem dX1_isIdle_4 : decode cX1_isIdle 4 = .ok (.iload_n 1, 1) := by decide +kernel
theorem dX1_isIdle_5 : decode cX1_isIdle 5 = .ok (.ishr, 1) := by decide +kernel
theorem dX1_isIdle_6 : decode cX1_isIdle 6 = .ok (.iconst 1, 1) := by decide +kernel
theorem dX1_isIdle_7 : decode cX1_isIdle 7 = .ok (.iand, 1) := by decide +kernel
theorem dX1_isIdle_8 : decode cX1_isIdle 8 = .ok (.ifCond .eq 7, 3) := by decide +kernel
theorem dX1_isIdle_11 : decode cX1_isIdle 11 = .ok (.iconst 1, 1) := by decide +kernel
theorem dX1_isIdle_12 : decode cX1_isIdle 12 = .ok (.goto 4, 3) := by decide +kernel
theorem dX1_isIdle_15 : decode cX1_isIdle 15 = .ok (.iconst 0, 1) := by decide +kernel
theorem dX1_isIdle_16 : decode cX1_isIdle 16 = .ok (.ireturn, 1) := by decide +kernel
theorem dX1_disagree_0 : decode cX1_disagree 0 = .ok (.aload_n 0, 1) := by decide +kernel
theorem dX1_disagree_1 : decode cX1_disagree 1 = .ok (.getfield 33, 3) := by decide +kernel
theorem dX1_disagree_4 : decode cX1_disagree 4 = .ok (.iload_n 1, 1) := by decide +kernel
theorem dX1_disagree_5 : decode cX1_disagree 5 = .ok (.iaload, 1) := by decide +kernel
theorem dX1_disagree_6 : decode cX1_disagree 6 = .ok (.aload_n 0, 1) := by decide +kernel
theorem dX1_disagree_7 : decode cX1_disagree 7 = .ok (.getfield 33, 3) := by decide +kernel
theorem dX1_disagree_10 : decode cX1_disagree 10 = .ok (.iload_n 2, 1) := by decide +kernel
theorem dX1_disagree_11 : decode cX1_disagree 11 = .ok (.iaload, 1) := by decide +kernel
theorem dX1_disagree_12 : decode cX1_disagree 12 = .ok (.if_icmp .ne 60, 3) := by decide +kernel
theorem dX1_disagree_15 : decode cX1_disagree 15 = .ok (.aload_n 0, 1) := by decide +kernel
theorem dX1_disagree_16 : decode cX1_disagree 16 = .ok (.iload_n 1, 1) := by decide +kernel
theorem dX1_disagree_17 : decode cX1_disagree 17 = .ok (.invokevirtual 69, 3) := by decide +kernel
theorem dX1_disagree_20 : decode cX1_disagree 20 = .ok (.ifCond .ne 52, 3) := by decide +kernel
theorem dX1_disagree_23 : decode cX1_disagree 23 = .ok (.aload_n 0, 1) := by decide +kernel
theorem dX1_disagree_24 : decode cX1_disagree 24 = .ok (.iload_n 2, 1) := by decide +kernel
theorem dX1_disagree_25 : decode cX1_disagree 25 = .ok (.invokevirtual 69, 3) := by decide +kernel
theorem dX1_disagree_28 : decode cX1_disagree 28 = .ok (.ifCond .ne 44, 3) := by decide +kernel
theorem dX1_disagree_31 : decode cX1_disagree 31 = .ok (.aload_n 0, 1) := by decide +kernel
theorem dX1_disagree_32 : decode cX1_disagree 32 = .ok (.iload_n 1, 1) := by decide +kernel
theorem dX1_disagree_33 : decode cX1_disagree 33 = .ok (.invokevirtual 73, 3) := by decide +kernel
theorem dX1_disagree_36 : decode cX1_disagree 36 = .ok (.ifCond .ne 36, 3) := by decide +kernel
theorem dX1_disagree_39 : decode cX1_disagree 39 = .ok (.aload_n 0, 1) := by decide +kernel
theorem dX1_disagree_40 : decode cX1_disagree 40 = .ok (.iload_n 2, 1) := by decide +kernel
theorem dX1_disagree_41 : decode cX1_disagree 41 = .ok (.invokevirtual 73, 3) := by decide +kernel
theorem dX1_disagree_44 : decode cX1_disagree 44 = .ok (.ifCond .ne 28, 3) := by decide +kernel
theorem dX1_disagree_47 : decode cX1_disagree 47 = .ok (.aload_n 0, 1) := by decide +kernel
theorem dX1_disagree_48 : decode cX1_disagree 48 = .ok (.getfield 30, 3) := by decide +kernel
theorem dX1_disagree_51 : decode cX1_disagree 51 = .ok (.iload_n 1, 1) := by decide +kernel
theorem dX1_disagree_52 : decode cX1_disagree 52 = .ok (.iaload, 1) := by decide +kernel
theorem dX1_disagree_53 : decode cX1_disagree 53 = .ok (.aload_n 0, 1) := by decide +kernel
theorem dX1_disagree_54 : decode cX1_disagree 54 = .ok (.getfield 30, 3) := by decide +kernel
theorem dX1_disagree_57 : decode cX1_disagree 57 = .ok (.iload_n 2, 1) := by decide +kernel
theorem dX1_disagree_58 : decode cX1_disagree 58 = .ok (.iaload, 1) := by decide +kernel
theorem dX1_disagree_59 : decode cX1_disagree 59 = .ok (.isub, 1) := by decide +kernel
theorem dX1_disagree_60 : decode cX1_disagree 60 = .ok (.invokestatic 76, 3) := by decide +kernel
theorem dX1_disagree_63 : decode cX1_disagree 63 = .ok (.bipush 30, 2) := by decide +kernel
theorem dX1_disagree_65 : decode cX1_disagree 65 = .ok (.if_icmp .lt 7, 3) := by decide +kernel
theorem dX1_disagree_68 : decode cX1_disagree 68 = .ok (.iconst 1, 1) := by decide +kernel
theorem dX1_disagree_69 : decode cX1_disagree 69 = .ok (.goto 4, 3) := by decide +kernel
theorem dX1_disagree_72 : decode cX1_disagree 72 = .ok (.iconst 0, 1) := by decide +kernel
theorem dX1_disagree_73 : decode cX1_disagree 73 = .ok (.ireturn, 1) := by decide +kernel
theorem dX1_welling_0 : decode cX1_welling 0 = .ok (.aload_n 0, 1) := by decide +kernel
theorem dX1_welling_1 : decode cX1_welling 1 = .ok (.iload_n 1, 1) := by decide +kernel
theorem dX1_welling_2 : decode cX1_welling 2 = .ok (.invokevirtual 73, 3) := by decide +kernel
theorem dX1_welling_5 : decode cX1_welling 5 = .ok (.ifCond .eq 5, 3) := by decide +kernel
theorem dX1_welling_8 : decode cX1_welling 8 = .ok (.iconst 0, 1) := by decide +kernel
theorem dX1_welling_9 : decode cX1_welling 9 = .ok (.ireturn, 1) := by decide +kernel
theorem dX1_welling_10 : decode cX1_welling 10 = .ok (.aload_n 0, 1) := by decide +kernel
theorem dX1_welling_11 : decode cX1_welling 11 = .ok (.getfield 30, 3) := by decide +kernel
theorem dX1_welling_14 : decode cX1_welling 14 = .ok (.iload_n 1, 1) := by decide +kernel
theorem dX1_welling_15 : decode cX1_welling 15 = .ok (.iaload, 1) := by decide +kernel
theorem dX1_welling_16 : decode cX1_welling 16 = .ok (.bipush 50, 2) := by decide +kernel
theorem dX1_welling_18 : decode cX1_welling 18 = .ok (.if_icmp .lt 12, 3) := by decide +kernel
theorem dX1_welling_21 : decode cX1_welling 21 = .ok (.aload_n 0, 1) := by decide +kernel
theorem dX1_welling_22 : decode cX1_welling 22 = .ok (.getfield 27, 3) := by decide +kernel
theorem dX1_welling_25 : decode cX1_welling 25 = .ok (.iload_n 1, 1) := by decide +kernel
theorem dX1_welling_26 : decode cX1_welling 26 = .ok (.iaload, 1) := by decide +kernel
theorem dX1_welling_27 : decode cX1_welling 27 = .ok (.goto 4, 3) := by decide +kernel
theorem dX1_welling_30 : decode cX1_welling 30 = .ok (.iconst 0, 1) := by decide +kernel
theorem dX1_welling_31 : decode cX1_welling 31 = .ok (.istore_n 2, 1) := by decide +kernel
theorem dX1_welling_32 : decode cX1_welling 32 = .ok (.iload_n 2, 1) := by decide +kernel
theorem dX1_welling_33 : decode cX1_welling 33 = .ok (.ifCond .ne 15, 3) := by decide +kernel
theorem dX1_welling_36 : decode cX1_welling 36 = .ok (.aload_n 0, 1) := by decide +kernel
theorem dX1_welling_37 : decode cX1_welling 37 = .ok (.iload_n 1, 1) := by decide +kernel
theorem dX1_welling_38 : decode cX1_welling 38 = .ok (.invokevirtual 69, 3) := by decide +kernel
theorem dX1_welling_41 : decode cX1_welling 41 = .ok (.ifCond .ne 7, 3) := by decide +kernel
theorem dX1_welling_44 : decode cX1_welling 44 = .ok (.iconst 1, 1) := by decide +kernel
theorem dX1_welling_45 : decode cX1_welling 45 = .ok (.goto 4, 3) := by decide +kernel
theorem dX1_welling_48 : decode cX1_welling 48 = .ok (.iload_n 2, 1) := by decide +kernel
theorem dX1_welling_49 : decode cX1_welling 49 = .ok (.istore_n 3, 1) := by decide +kernel
theorem dX1_welling_50 : decode cX1_welling 50 = .ok (.aload_n 0, 1) := by decide +kernel
theorem dX1_welling_51 : decode cX1_welling 51 = .ok (.getfield 24, 3) := by decide +kernel
theorem dX1_welling_54 : decode cX1_welling 54 = .ok (.iload_n 1, 1) := by decide +kernel
theorem dX1_welling_55 : decode cX1_welling 55 = .ok (.iaload, 1) := by decide +kernel
theorem dX1_welling_56 : decode cX1_welling 56 = .ok (.tableswitch 72 1 5 #[36, 51, 40, 53, 57], 36) := by decide +kernel
theorem dX1_welling_92 : decode cX1_welling 92 = .ok (.iconst 2, 1) := by decide +kernel
theorem dX1_welling_93 : decode cX1_welling 93 = .ok (.iload_n 2, 1) := by decide +kernel
theorem dX1_welling_94 : decode cX1_welling 94 = .ok (.imul, 1) := by decide +kernel
theorem dX1_welling_95 : decode cX1_welling 95 = .ok (.ireturn, 1) := by decide +kernel
theorem dX1_welling_96 : decode cX1_welling 96 = .ok (.iconst 2, 1) := by decide +kernel
theorem dX1_welling_97 : decode cX1_welling 97 = .ok (.iload_n 2, 1) := by decide +kernel
theorem dX1_welling_98 : decode cX1_welling 98 = .ok (.imul, 1) := by decide +kernel
theorem dX1_welling_99 : decode cX1_welling 99 = .ok (.aload_n 0, 1) := by decide +kernel
theorem dX1_welling_100 : decode cX1_welling 100 = .ok (.getfield 9, 3) := by decide +kernel
theorem dX1_welling_103 : decode cX1_welling 103 = .ok (.iconst 0, 1) := by decide +kernel
theorem dX1_welling_104 : decode cX1_welling 104 = .ok (.iaload, 1) := by decide +kernel
theorem dX1_welling_105 : decode cX1_welling 105 = .ok (.iadd, 1) := by decide +kernel
theorem dX1_welling_106 : decode cX1_welling 106 = .ok (.ireturn, 1) := by decide +kernel
theorem dX1_welling_107 : decode cX1_welling 107 = .ok (.iload_n 3, 1) := by decide +kernel
theorem dX1_welling_108 : decode cX1_welling 108 = .ok (.ireturn, 1) := by decide +kernel
theorem dX1_welling_109 : decode cX1_welling 109 = .ok (.iload_n 3, 1) := by decide +kernel
theorem dX1_welling_110 : decode cX1_welling 110 = .ok (.iconst 2, 1) := by decide +kernel
theorem dX1_welling_111 : decode cX1_welling 111 = .ok (.idiv, 1) := by decide +kernel
theorem dX1_welling_112 : decode cX1_welling 112 = .ok (.ireturn, 1) := by decide +kernel
theorem dX1_welling_113 : decode cX1_welling 113 = .ok (.aload_n 0, 1) := by decide +kernel
theorem dX1_welling_114 : decode cX1_welling 114 = .ok (.getfield 46, 3) := by decide +kernel
theorem dX1_welling_117 : decode cX1_welling 117 = .ok (.iconst 2, 1) := by decide +kernel
theorem dX1_welling_118 : decode cX1_welling 118 = .ok (.irem, 1) := by decide +kernel
theorem dX1_welling_119 : decode cX1_welling 119 = .ok (.ifCond .ne 7, 3) := by decide +kernel
theorem dX1_welling_122 : decode cX1_welling 122 = .ok (.iload_n 2, 1) := by decide +kernel
theorem dX1_welling_123 : decode cX1_welling 123 = .ok (.goto 4, 3) := by decide +kernel
theorem dX1_welling_126 : decode cX1_welling 126 = .ok (.iconst 0, 1) := by decide +kernel
theorem dX1_welling_127 : decode cX1_welling 127 = .ok (.ireturn, 1) := by decide +kernel
theorem dX1_welling_128 : decode cX1_welling 128 = .ok (.iload_n 2, 1) := by decide +kernel
theorem dX1_welling_129 : decode cX1_welling 129 = .ok (.ireturn, 1) := by decide +kernel
theorem dX1_losing_0 : decode cX1_losing 0 = .ok (.bipush 10, 2) := by decide +kernel
theorem dX1_losing_2 : decode cX1_losing 2 = .ok (.istore_n 2, 1) := by decide +kernel
theorem dX1_losing_3 : decode cX1_losing 3 = .ok (.aload_n 0, 1) := by decide +kernel
theorem dX1_losing_4 : decode cX1_losing 4 = .ok (.getfield 24, 3) := by decide +kernel
theorem dX1_losing_7 : decode cX1_losing 7 = .ok (.iload_n 1, 1) := by decide +kernel
theorem dX1_losing_8 : decode cX1_losing 8 = .ok (.iaload, 1) := by decide +kernel
theorem dX1_losing_9 : decode cX1_losing 9 = .ok (.tableswitch 66 1 5 #[35, 41, 39, 50, 62], 35) := by decide +kernel
theorem dX1_losing_44 : decode cX1_losing 44 = .ok (.iload_n 2, 1) := by decide +kernel
theorem dX1_losing_45 : decode cX1_losing 45 = .ok (.iconst 2, 1) := by decide +kernel
theorem dX1_losing_46 : decode cX1_losing 46 = .ok (.idiv, 1) := by decide +kernel
theorem dX1_losing_47 : decode cX1_losing 47 = .ok (.ireturn, 1) := by decide +kernel
theorem dX1_losing_48 : decode cX1_losing 48 = .ok (.iconst 0, 1) := by decide +kernel
theorem dX1_losing_49 : decode cX1_losing 49 = .ok (.ireturn, 1) := by decide +kernel
theorem dX1_losing_50 : decode cX1_losing 50 = .ok (.iload_n 2, 1) := by decide +kernel
theorem dX1_losing_51 : decode cX1_losing 51 = .ok (.aload_n 0, 1) := by decide +kernel
theorem dX1_losing_52 : decode cX1_losing 52 = .ok (.getfield 27, 3) := by decide +kernel
theorem dX1_losing_55 : decode cX1_losing 55 = .ok (.iload_n 1, 1) := by decide +kernel
theorem dX1_losing_56 : decode cX1_losing 56 = .ok (.iaload, 1) := by decide +kernel
theorem dX1_losing_57 : decode cX1_losing 57 = .ok (.iadd, 1) := by decide +kernel
theorem dX1_losing_58 : decode cX1_losing 58 = .ok (.ireturn, 1) := by decide +kernel
theorem dX1_losing_59 : decode cX1_losing 59 = .ok (.iload_n 2, 1) := by decide +kernel
theorem dX1_losing_60 : decode cX1_losing 60 = .ok (.aload_n 0, 1) := by decide +kernel
theorem dX1_losing_61 : decode cX1_losing 61 = .ok (.getfield 27, 3) := by decide +kernel
theorem dX1_losing_64 : decode cX1_losing 64 = .ok (.iload_n 1, 1) := by decide +kernel
theorem dX1_losing_65 : decode cX1_losing 65 = .ok (.iaload, 1) := by decide +kernel
theorem dX1_losing_66 : decode cX1_losing 66 = .ok (.iadd, 1) := by decide +kernel
theorem dX1_losing_67 : decode cX1_losing 67 = .ok (.bipush 15, 2) := by decide +kernel
theorem dX1_losing_69 : decode cX1_losing 69 = .ok (.isub, 1) := by decide +kernel
theorem dX1_losing_70 : decode cX1_losing 70 = .ok (.ireturn, 1) := by decide +kernel
theorem dX1_losing_71 : decode cX1_losing 71 = .ok (.iconst 3, 1) := by decide +kernel
theorem dX1_losing_72 : decode cX1_losing 72 = .ok (.iload_n 2, 1) := by decide +kernel
theorem dX1_losing_73 : decode cX1_losing 73 = .ok (.imul, 1) := by decide +kernel
theorem dX1_losing_74 : decode cX1_losing 74 = .ok (.ireturn, 1) := by decide +kernel
theorem dX1_losing_75 : decode cX1_losing 75 = .ok (.iload_n 2, 1) := by decide +kernel
theorem dX1_losing_76 : decode cX1_losing 76 = .ok (.ireturn, 1) := by decide +kernel
theorem dX1_winning_0 : decode cX1_winning 0 = .ok (.iconst 3, 1) := by decide +kernel
theorem dX1_winning_1 : decode cX1_winning 1 = .ok (.istore_n 2, 1) := by decide +kernel
theorem dX1_winning_2 : decode cX1_winning 2 = .ok (.aload_n 0, 1) := by decide +kernel
theorem dX1_winning_3 : decode cX1_winning 3 = .ok (.getfield 24, 3) := by decide +kernel
theorem dX1_winning_6 : decode cX1_winning 6 = .ok (.iload_n 1, 1) := by decide +kernel
theorem dX1_winning_7 : decode cX1_winning 7 = .ok (.iaload, 1) := by decide +kernel
theorem dX1_winning_8 : decode cX1_winning 8 = .ok (.tableswitch 54 1 5 #[36, 44, 40, 48, 52], 36) := by decide +kernel
theorem dX1_winning_44 : decode cX1_winning 44 = .ok (.iload_n 2, 1) := by decide +kernel
theorem dX1_winning_45 : decode cX1_winning 45 = .ok (.iconst 2, 1) := by decide +kernel
theorem dX1_winning_46 : decode cX1_winning 46 = .ok (.iadd, 1) := by decide +kernel
theorem dX1_winning_47 : decode cX1_winning 47 = .ok (.ireturn, 1) := by decide +kernel
theorem dX1_winning_48 : decode cX1_winning 48 = .ok (.iload_n 2, 1) := by decide +kernel
theorem dX1_winning_49 : decode cX1_winning 49 = .ok (.iconst 2, 1) := by decide +kernel
theorem dX1_winning_50 : decode cX1_winning 50 = .ok (.iadd, 1) := by decide +kernel
theorem dX1_winning_51 : decode cX1_winning 51 = .ok (.ireturn, 1) := by decide +kernel
theorem dX1_winning_52 : decode cX1_winning 52 = .ok (.iload_n 2, 1) := by decide +kernel
theorem dX1_winning_53 : decode cX1_winning 53 = .ok (.iconst 2, 1) := by decide +kernel
theorem dX1_winning_54 : decode cX1_winning 54 = .ok (.isub, 1) := by decide +kernel
theorem dX1_winning_55 : decode cX1_winning 55 = .ok (.ireturn, 1) := by decide +kernel
theorem dX1_winning_56 : decode cX1_winning 56 = .ok (.iload_n 2, 1) := by decide +kernel
theorem dX1_winning_57 : decode cX1_winning 57 = .ok (.iconst 2, 1) := by decide +kernel
theorem dX1_winning_58 : decode cX1_winning 58 = .ok (.isub, 1) := by decide +kernel
theorem dX1_winning_59 : decode cX1_winning 59 = .ok (.ireturn, 1) := by decide +kernel
theorem dX1_winning_60 : decode cX1_winning 60 = .ok (.iconst 0, 1) := by decide +kernel
theorem dX1_winning_61 : decode cX1_winning 61 = .ok (.ireturn, 1) := by decide +kernel
theorem dX1_winning_62 : decode cX1_winning 62 = .ok (.iload_n 2, 1) := by decide +kernel
theorem dX1_winning_63 : decode cX1_winning 63 = .ok (.ireturn, 1) := by decide +kernel
theorem dX1_opponents_0 : decode cX1_opponents 0 = .ok (.iconst 0, 1) := by decide +kernel
theorem dX1_opponents_1 : decode cX1_opponents 1 = .ok (.istore_n 2, 1) := by decide +kernel
theorem dX1_opponents_2 : decode cX1_opponents 2 = .ok (.iconst 0, 1) := by decide +kernel
theorem dX1_opponents_3 : decode cX1_opponents 3 = .ok (.istore_n 3, 1) := by decide +kernel
theorem dX1_opponents_4 : decode cX1_opponents 4 = .ok (.iload_n 3, 1) := by decide +kernel
theorem dX1_opponents_5 : decode cX1_opponents 5 = .ok (.aload_n 0, 1) := by decide +kernel
theorem dX1_opponents_6 : decode cX1_opponents 6 = .ok (.getfield 49, 3) := by decide +kernel
theorem dX1_opponents_9 : decode cX1_opponents 9 = .ok (.if_icmp .ge 24, 3) := by decide +kernel
theorem dX1_opponents_12 : decode cX1_opponents 12 = .ok (.aload_n 0, 1) := by decide +kernel
theorem dX1_opponents_13 : decode cX1_opponents 13 = .ok (.iload_n 1, 1) := by decide +kernel
theorem dX1_opponents_14 : decode cX1_opponents 14 = .ok (.iload_n 3, 1) := by decide +kernel
theorem dX1_opponents_15 : decode cX1_opponents 15 = .ok (.invokevirtual 81, 3) := by decide +kernel
theorem dX1_opponents_18 : decode cX1_opponents 18 = .ok (.ifCond .eq 9, 3) := by decide +kernel
theorem dX1_opponents_21 : decode cX1_opponents 21 = .ok (.iload_n 2, 1) := by decide +kernel
theorem dX1_opponents_22 : decode cX1_opponents 22 = .ok (.iconst 1, 1) := by decide +kernel
theorem dX1_opponents_23 : decode cX1_opponents 23 = .ok (.iload_n 3, 1) := by decide +kernel
theorem dX1_opponents_24 : decode cX1_opponents 24 = .ok (.ishl, 1) := by decide +kernel
theorem dX1_opponents_25 : decode cX1_opponents 25 = .ok (.ior, 1) := by decide +kernel
theorem dX1_opponents_26 : decode cX1_opponents 26 = .ok (.istore_n 2, 1) := by decide +kernel
theorem dX1_opponents_27 : decode cX1_opponents 27 = .ok (.iinc 3 1, 3) := by decide +kernel
theorem dX1_opponents_30 : decode cX1_opponents 30 = .ok (.goto (-26), 3) := by decide +kernel
theorem dX1_opponents_33 : decode cX1_opponents 33 = .ok (.iload_n 2, 1) := by decide +kernel
theorem dX1_opponents_34 : decode cX1_opponents 34 = .ok (.ireturn, 1) := by decide +kernel
theorem dX1_peopleAt_0 : decode cX1_peopleAt 0 = .ok (.iconst 0, 1) := by decide +kernel
theorem dX1_peopleAt_1 : decode cX1_peopleAt 1 = .ok (.istore_n 2, 1) := by decide +kernel
theorem dX1_peopleAt_2 : decode cX1_peopleAt 2 = .ok (.iconst 0, 1) := by decide +kernel
theorem dX1_peopleAt_3 : decode cX1_peopleAt 3 = .ok (.istore_n 3, 1) := by decide +kernel
theorem dX1_peopleAt_4 : decode cX1_peopleAt 4 = .ok (.iload_n 3, 1) := by decide +kernel
theorem dX1_peopleAt_5 : decode cX1_peopleAt 5 = .ok (.aload_n 0, 1) := by decide +kernel
theorem dX1_peopleAt_6 : decode cX1_peopleAt 6 = .ok (.getfield 49, 3) := by decide +kernel
theorem dX1_peopleAt_9 : decode cX1_peopleAt 9 = .ok (.if_icmp .ge 25, 3) := by decide +kernel
theorem dX1_peopleAt_12 : decode cX1_peopleAt 12 = .ok (.aload_n 0, 1) := by decide +kernel
theorem dX1_peopleAt_13 : decode cX1_peopleAt 13 = .ok (.getfield 33, 3) := by decide +kernel
theorem dX1_peopleAt_16 : decode cX1_peopleAt 16 = .ok (.iload_n 3, 1) := by decide +kernel
theorem dX1_peopleAt_17 : decode cX1_peopleAt 17 = .ok (.iaload, 1) := by decide +kernel
theorem dX1_peopleAt_18 : decode cX1_peopleAt 18 = .ok (.iload_n 1, 1) := by decide +kernel
theorem dX1_peopleAt_19 : decode cX1_peopleAt 19 = .ok (.if_icmp .ne 9, 3) := by decide +kernel
theorem dX1_peopleAt_22 : decode cX1_peopleAt 22 = .ok (.iload_n 2, 1) := by decide +kernel
theorem dX1_peopleAt_23 : decode cX1_peopleAt 23 = .ok (.iconst 1, 1) := by decide +kernel
theorem dX1_peopleAt_24 : decode cX1_peopleAt 24 = .ok (.iload_n 3, 1) := by decide +kernel
theorem dX1_peopleAt_25 : decode cX1_peopleAt 25 = .ok (.ishl, 1) := by decide +kernel
theorem dX1_peopleAt_26 : decode cX1_peopleAt 26 = .ok (.ior, 1) := by decide +kernel
theorem dX1_peopleAt_27 : decode cX1_peopleAt 27 = .ok (.istore_n 2, 1) := by decide +kernel
theorem dX1_peopleAt_28 : decode cX1_peopleAt 28 = .ok (.iinc 3 1, 3) := by decide +kernel
theorem dX1_peopleAt_31 : decode cX1_peopleAt 31 = .ok (.goto (-27), 3) := by decide +kernel
theorem dX1_peopleAt_34 : decode cX1_peopleAt 34 = .ok (.iload_n 2, 1) := by decide +kernel
theorem dX1_peopleAt_35 : decode cX1_peopleAt 35 = .ok (.ireturn, 1) := by decide +kernel
theorem dX1_wellingAt_0 : decode cX1_wellingAt 0 = .ok (.iconst 0, 1) := by decide +kernel
theorem dX1_wellingAt_1 : decode cX1_wellingAt 1 = .ok (.istore_n 2, 1) := by decide +kernel
theorem dX1_wellingAt_2 : decode cX1_wellingAt 2 = .ok (.iconst 0, 1) := by decide +kernel
theorem dX1_wellingAt_3 : decode cX1_wellingAt 3 = .ok (.istore_n 3, 1) := by decide +kernel
theorem dX1_wellingAt_4 : decode cX1_wellingAt 4 = .ok (.iload_n 3, 1) := by decide +kernel
theorem dX1_wellingAt_5 : decode cX1_wellingAt 5 = .ok (.aload_n 0, 1) := by decide +kernel
theorem dX1_wellingAt_6 : decode cX1_wellingAt 6 = .ok (.getfield 49, 3) := by decide +kernel
theorem dX1_wellingAt_9 : decode cX1_wellingAt 9 = .ok (.if_icmp .ge 27, 3) := by decide +kernel
theorem dX1_wellingAt_12 : decode cX1_wellingAt 12 = .ok (.aload_n 0, 1) := by decide +kernel
theorem dX1_wellingAt_13 : decode cX1_wellingAt 13 = .ok (.getfield 33, 3) := by decide +kernel
theorem dX1_wellingAt_16 : decode cX1_wellingAt 16 = .ok (.iload_n 3, 1) := by decide +kernel
theorem dX1_wellingAt_17 : decode cX1_wellingAt 17 = .ok (.iaload, 1) := by decide +kernel
theorem dX1_wellingAt_18 : decode cX1_wellingAt 18 = .ok (.iload_n 1, 1) := by decide +kernel
theorem dX1_wellingAt_19 : decode cX1_wellingAt 19 = .ok (.if_icmp .ne 11, 3) := by decide +kernel
theorem dX1_wellingAt_22 : decode cX1_wellingAt 22 = .ok (.iload_n 2, 1) := by decide +kernel
theorem dX1_wellingAt_23 : decode cX1_wellingAt 23 = .ok (.aload_n 0, 1) := by decide +kernel
theorem dX1_wellingAt_24 : decode cX1_wellingAt 24 = .ok (.iload_n 3, 1) := by decide +kernel
theorem dX1_wellingAt_25 : decode cX1_wellingAt 25 = .ok (.invokevirtual 85, 3) := by decide +kernel
theorem dX1_wellingAt_28 : decode cX1_wellingAt 28 = .ok (.iadd, 1) := by decide +kernel
theorem dX1_wellingAt_29 : decode cX1_wellingAt 29 = .ok (.istore_n 2, 1) := by decide +kernel
theorem dX1_wellingAt_30 : decode cX1_wellingAt 30 = .ok (.iinc 3 1, 3) := by decide +kernel
theorem dX1_wellingAt_33 : decode cX1_wellingAt 33 = .ok (.goto (-29), 3) := by decide +kernel
theorem dX1_wellingAt_36 : decode cX1_wellingAt 36 = .ok (.iload_n 2, 1) := by decide +kernel
theorem dX1_wellingAt_37 : decode cX1_wellingAt 37 = .ok (.ireturn, 1) := by decide +kernel
theorem dX1_disputesAt_0 : decode cX1_disputesAt 0 = .ok (.iconst 0, 1) := by decide +kernel
theorem dX1_disputesAt_1 : decode cX1_disputesAt 1 = .ok (.istore_n 2, 1) := by decide +kernel
theorem dX1_disputesAt_2 : decode cX1_disputesAt 2 = .ok (.iconst 0, 1) := by decide +kernel
theorem dX1_disputesAt_3 : decode cX1_disputesAt 3 = .ok (.istore_n 3, 1) := by decide +kernel
theorem dX1_disputesAt_4 : decode cX1_disputesAt 4 = .ok (.iload_n 3, 1) := by decide +kernel
theorem dX1_disputesAt_5 : decode cX1_disputesAt 5 = .ok (.aload_n 0, 1) := by decide +kernel
theorem dX1_disputesAt_6 : decode cX1_disputesAt 6 = .ok (.getfield 49, 3) := by decide +kernel
theorem dX1_disputesAt_9 : decode cX1_disputesAt 9 = .ok (.if_icmp .ge 30, 3) := by decide +kernel
theorem dX1_disputesAt_12 : decode cX1_disputesAt 12 = .ok (.aload_n 0, 1) := by decide +kernel
theorem dX1_disputesAt_13 : decode cX1_disputesAt 13 = .ok (.getfield 33, 3) := by decide +kernel
theorem dX1_disputesAt_16 : decode cX1_disputesAt 16 = .ok (.iload_n 3, 1) := by decide +kernel
theorem dX1_disputesAt_17 : decode cX1_disputesAt 17 = .ok (.iaload, 1) := by decide +kernel
theorem dX1_disputesAt_18 : decode cX1_disputesAt 18 = .ok (.iload_n 1, 1) := by decide +kernel
theorem dX1_disputesAt_19 : decode cX1_disputesAt 19 = .ok (.if_icmp .ne 14, 3) := by decide +kernel
theorem dX1_disputesAt_22 : decode cX1_disputesAt 22 = .ok (.iload_n 2, 1) := by decide +kernel
theorem dX1_disputesAt_23 : decode cX1_disputesAt 23 = .ok (.aload_n 0, 1) := by decide +kernel
theorem dX1_disputesAt_24 : decode cX1_disputesAt 24 = .ok (.iload_n 3, 1) := by decide +kernel
theorem dX1_disputesAt_25 : decode cX1_disputesAt 25 = .ok (.invokevirtual 88, 3) := by decide +kernel
theorem dX1_disputesAt_28 : decode cX1_disputesAt 28 = .ok (.invokestatic 91, 3) := by decide +kernel
theorem dX1_disputesAt_31 : decode cX1_disputesAt 31 = .ok (.iadd, 1) := by decide +kernel
theorem dX1_disputesAt_32 : decode cX1_disputesAt 32 = .ok (.istore_n 2, 1) := by decide +kernel
theorem dX1_disputesAt_33 : decode cX1_disputesAt 33 = .ok (.iinc 3 1, 3) := by decide +kernel
theorem dX1_disputesAt_36 : decode cX1_disputesAt 36 = .ok (.goto (-32), 3) := by decide +kernel
theorem dX1_disputesAt_39 : decode cX1_disputesAt 39 = .ok (.iload_n 2, 1) := by decide +kernel
theorem dX1_disputesAt_40 : decode cX1_disputesAt 40 = .ok (.iconst 2, 1) := by decide +kernel
theorem dX1_disputesAt_41 : decode cX1_disputesAt 41 = .ok (.idiv, 1) := by decide +kernel
theorem dX1_disputesAt_42 : decode cX1_disputesAt 42 = .ok (.ireturn, 1) := by decide +kernel
theorem dX1_disputes_0 : decode cX1_disputes 0 = .ok (.iconst 0, 1) := by decide +kernel
theorem dX1_disputes_1 : decode cX1_disputes 1 = .ok (.istore_n 1, 1) := by decide +kernel
theorem dX1_disputes_2 : decode cX1_disputes 2 = .ok (.iconst 0, 1) := by decide +kernel
theorem dX1_disputes_3 : decode cX1_disputes 3 = .ok (.istore_n 2, 1) := by decide +kernel
theorem dX1_disputes_4 : decode cX1_disputes 4 = .ok (.iload_n 2, 1) := by decide +kernel
theorem dX1_disputes_5 : decode cX1_disputes 5 = .ok (.aload_n 0, 1) := by decide +kernel
theorem dX1_disputes_6 : decode cX1_disputes 6 = .ok (.getfield 49, 3) := by decide +kernel
theorem dX1_disputes_9 : decode cX1_disputes 9 = .ok (.if_icmp .ge 20, 3) := by decide +kernel
theorem dX1_disputes_12 : decode cX1_disputes 12 = .ok (.iload_n 1, 1) := by decide +kernel
theorem dX1_disputes_13 : decode cX1_disputes 13 = .ok (.aload_n 0, 1) := by decide +kernel
theorem dX1_disputes_14 : decode cX1_disputes 14 = .ok (.iload_n 2, 1) := by decide +kernel
theorem dX1_disputes_15 : decode cX1_disputes 15 = .ok (.invokevirtual 88, 3) := by decide +kernel
theorem dX1_disputes_18 : decode cX1_disputes 18 = .ok (.invokestatic 91, 3) := by decide +kernel
theorem dX1_disputes_21 : decode cX1_disputes 21 = .ok (.iadd, 1) := by decide +kernel
theorem dX1_disputes_22 : decode cX1_disputes 22 = .ok (.istore_n 1, 1) := by decide +kernel
theorem dX1_disputes_23 : decode cX1_disputes 23 = .ok (.iinc 2 1, 3) := by decide +kernel
theorem dX1_disputes_26 : decode cX1_disputes 26 = .ok (.goto (-22), 3) := by decide +kernel
theorem dX1_disputes_29 : decode cX1_disputes 29 = .ok (.iload_n 1, 1) := by decide +kernel
theorem dX1_disputes_30 : decode cX1_disputes 30 = .ok (.iconst 2, 1) := by decide +kernel
theorem dX1_disputes_31 : decode cX1_disputes 31 = .ok (.idiv, 1) := by decide +kernel
theorem dX1_disputes_32 : decode cX1_disputes 32 = .ok (.ireturn, 1) := by decide +kernel
theorem dX1_lostPeople_0 : decode cX1_lostPeople 0 = .ok (.iconst 0, 1) := by decide +kernel
theorem dX1_lostPeople_1 : decode cX1_lostPeople 1 = .ok (.istore_n 1, 1) := by decide +kernel
theorem dX1_lostPeople_2 : decode cX1_lostPeople 2 = .ok (.iconst 0, 1) := by decide +kernel
theorem dX1_lostPeople_3 : decode cX1_lostPeople 3 = .ok (.istore_n 2, 1) := by decide +kernel
theorem dX1_lostPeople_4 : decode cX1_lostPeople 4 = .ok (.iload_n 2, 1) := by decide +kernel
theorem dX1_lostPeople_5 : decode cX1_lostPeople 5 = .ok (.aload_n 0, 1) := by decide +kernel
theorem dX1_lostPeople_6 : decode cX1_lostPeople 6 = .ok (.getfield 49, 3) := by decide +kernel
theorem dX1_lostPeople_9 : decode cX1_lostPeople 9 = .ok (.if_icmp .ge 23, 3) := by decide +kernel
theorem dX1_lostPeople_12 : decode cX1_lostPeople 12 = .ok (.aload_n 0, 1) := by decide +kernel
theorem dX1_lostPeople_13 : decode cX1_lostPeople 13 = .ok (.iload_n 2, 1) := by decide +kernel
theorem dX1_lostPeople_14 : decode cX1_lostPeople 14 = .ok (.invokevirtual 69, 3) := by decide +kernel
theorem dX1_lostPeople_17 : decode cX1_lostPeople 17 = .ok (.ifCond .eq 9, 3) := by decide +kernel
theorem dX1_lostPeople_20 : decode cX1_lostPeople 20 = .ok (.iload_n 1, 1) := by decide +kernel
theorem dX1_lostPeople_21 : decode cX1_lostPeople 21 = .ok (.iconst 1, 1) := by decide +kernel
theorem dX1_lostPeople_22 : decode cX1_lostPeople 22 = .ok (.iload_n 2, 1) := by decide +kernel
theorem dX1_lostPeople_23 : decode cX1_lostPeople 23 = .ok (.ishl, 1) := by decide +kernel
theorem dX1_lostPeople_24 : decode cX1_lostPeople 24 = .ok (.ior, 1) := by decide +kernel
theorem dX1_lostPeople_25 : decode cX1_lostPeople 25 = .ok (.istore_n 1, 1) := by decide +kernel
theorem dX1_lostPeople_26 : decode cX1_lostPeople 26 = .ok (.iinc 2 1, 3) := by decide +kernel
theorem dX1_lostPeople_29 : decode cX1_lostPeople 29 = .ok (.goto (-25), 3) := by decide +kernel
theorem dX1_lostPeople_32 : decode cX1_lostPeople 32 = .ok (.iload_n 1, 1) := by decide +kernel
theorem dX1_lostPeople_33 : decode cX1_lostPeople 33 = .ok (.ireturn, 1) := by decide +kernel
theorem dX1_allSure_0 : decode cX1_allSure 0 = .ok (.iconst 0, 1) := by decide +kernel
theorem dX1_allSure_1 : decode cX1_allSure 1 = .ok (.istore_n 1, 1) := by decide +kernel
theorem dX1_allSure_2 : decode cX1_allSure 2 = .ok (.iconst 0, 1) := by decide +kernel
theorem dX1_allSure_3 : decode cX1_allSure 3 = .ok (.istore_n 2, 1) := by decide +kernel
theorem dX1_allSure_4 : decode cX1_allSure 4 = .ok (.iload_n 2, 1) := by decide +kernel
theorem dX1_allSure_5 : decode cX1_allSure 5 = .ok (.aload_n 0, 1) := by decide +kernel
theorem dX1_allSure_6 : decode cX1_allSure 6 = .ok (.getfield 49, 3) := by decide +kernel
theorem dX1_allSure_9 : decode cX1_allSure 9 = .ok (.if_icmp .ge 18, 3) := by decide +kernel
theorem dX1_allSure_12 : decode cX1_allSure 12 = .ok (.iload_n 1, 1) := by decide +kernel
theorem dX1_allSure_13 : decode cX1_allSure 13 = .ok (.aload_n 0, 1) := by decide +kernel
theorem dX1_allSure_14 : decode cX1_allSure 14 = .ok (.getfield 30, 3) := by decide +kernel
theorem dX1_allSure_17 : decode cX1_allSure 17 = .ok (.iload_n 2, 1) := by decide +kernel
theorem dX1_allSure_18 : decode cX1_allSure 18 = .ok (.iaload, 1) := by decide +kernel
theorem dX1_allSure_19 : decode cX1_allSure 19 = .ok (.iadd, 1) := by decide +kernel
theorem dX1_allSure_20 : decode cX1_allSure 20 = .ok (.istore_n 1, 1) := by decide +kernel
theorem dX1_allSure_21 : decode cX1_allSure 21 = .ok (.iinc 2 1, 3) := by decide +kernel
theorem dX1_allSure_24 : decode cX1_allSure 24 = .ok (.goto (-20), 3) := by decide +kernel
theorem dX1_allSure_27 : decode cX1_allSure 27 = .ok (.iload_n 1, 1) := by decide +kernel
theorem dX1_allSure_28 : decode cX1_allSure 28 = .ok (.ireturn, 1) := by decide +kernel
theorem dX1_allWater_0 : decode cX1_allWater 0 = .ok (.iconst 0, 1) := by decide +kernel
theorem dX1_allWater_1 : decode cX1_allWater 1 = .ok (.istore_n 1, 1) := by decide +kernel
theorem dX1_allWater_2 : decode cX1_allWater 2 = .ok (.iconst 0, 1) := by decide +kernel
theorem dX1_allWater_3 : decode cX1_allWater 3 = .ok (.istore_n 2, 1) := by decide +kernel
theorem dX1_allWater_4 : decode cX1_allWater 4 = .ok (.iload_n 2, 1) := by decide +kernel
theorem dX1_allWater_5 : decode cX1_allWater 5 = .ok (.bipush 32, 2) := by decide +kernel
theorem dX1_allWater_7 : decode cX1_allWater 7 = .ok (.if_icmp .ge 18, 3) := by decide +kernel
theorem dX1_allWater_10 : decode cX1_allWater 10 = .ok (.iload_n 1, 1) := by decide +kernel
theorem dX1_allWater_11 : decode cX1_allWater 11 = .ok (.aload_n 0, 1) := by decide +kernel
theorem dX1_allWater_12 : decode cX1_allWater 12 = .ok (.getfield 18, 3) := by decide +kernel
theorem dX1_allWater_15 : decode cX1_allWater 15 = .ok (.iload_n 2, 1) := by decide +kernel
theorem dX1_allWater_16 : decode cX1_allWater 16 = .ok (.iaload, 1) := by decide +kernel
theorem dX1_allWater_17 : decode cX1_allWater 17 = .ok (.iadd, 1) := by decide +kernel
theorem dX1_allWater_18 : decode cX1_allWater 18 = .ok (.istore_n 1, 1) := by decide +kernel
theorem dX1_allWater_19 : decode cX1_allWater 19 = .ok (.iinc 2 1, 3) := by decide +kernel
theorem dX1_allWater_22 : decode cX1_allWater 22 = .ok (.goto (-18), 3) := by decide +kernel
theorem dX1_allWater_25 : decode cX1_allWater 25 = .ok (.iload_n 1, 1) := by decide +kernel
theorem dX1_allWater_26 : decode cX1_allWater 26 = .ok (.ireturn, 1) := by decide +kernel
theorem dX1_wetCells_0 : decode cX1_wetCells 0 = .ok (.lconst 0, 1) := by decide +kernel
theorem dX1_wetCells_1 : decode cX1_wetCells 1 = .ok (.lstore_n 1, 1) := by decide +kernel
theorem dX1_wetCells_2 : decode cX1_wetCells 2 = .ok (.iconst 0, 1) := by decide +kernel
theorem dX1_wetCells_3 : decode cX1_wetCells 3 = .ok (.istore_n 3, 1) := by decide +kernel
theorem dX1_wetCells_4 : decode cX1_wetCells 4 = .ok (.iload_n 3, 1) := by decide +kernel
theorem dX1_wetCells_5 : decode cX1_wetCells 5 = .ok (.bipush 32, 2) := by decide +kernel
theorem dX1_wetCells_7 : decode cX1_wetCells 7 = .ok (.if_icmp .ge 23, 3) := by decide +kernel
theorem dX1_wetCells_10 : decode cX1_wetCells 10 = .ok (.aload_n 0, 1) := by decide +kernel
theorem dX1_wetCells_11 : decode cX1_wetCells 11 = .ok (.iload_n 3, 1) := by decide +kernel
theorem dX1_wetCells_12 : decode cX1_wetCells 12 = .ok (.invokevirtual 96, 3) := by decide +kernel
theorem dX1_wetCells_15 : decode cX1_wetCells 15 = .ok (.ifCond .eq 9, 3) := by decide +kernel
theorem dX1_wetCells_18 : decode cX1_wetCells 18 = .ok (.lload_n 1, 1) := by decide +kernel
theorem dX1_wetCells_19 : decode cX1_wetCells 19 = .ok (.lconst 1, 1) := by decide +kernel
theorem dX1_wetCells_20 : decode cX1_wetCells 20 = .ok (.iload_n 3, 1) := by decide +kernel
theorem dX1_wetCells_21 : decode cX1_wetCells 21 = .ok (.lshl, 1) := by decide +kernel
theorem dX1_wetCells_22 : decode cX1_wetCells 22 = .ok (.lor, 1) := by decide +kernel
theorem dX1_wetCells_23 : decode cX1_wetCells 23 = .ok (.lstore_n 1, 1) := by decide +kernel
theorem dX1_wetCells_24 : decode cX1_wetCells 24 = .ok (.iinc 3 1, 3) := by decide +kernel
theorem dX1_wetCells_27 : decode cX1_wetCells 27 = .ok (.goto (-23), 3) := by decide +kernel
theorem dX1_wetCells_30 : decode cX1_wetCells 30 = .ok (.lload_n 1, 1) := by decide +kernel
theorem dX1_wetCells_31 : decode cX1_wetCells 31 = .ok (.lreturn, 1) := by decide +kernel
theorem dX1_trodCells_0 : decode cX1_trodCells 0 = .ok (.lconst 0, 1) := by decide +kernel
theorem dX1_trodCells_1 : decode cX1_trodCells 1 = .ok (.lstore_n 1, 1) := by decide +kernel
theorem dX1_trodCells_2 : decode cX1_trodCells 2 = .ok (.iconst 0, 1) := by decide +kernel
theorem dX1_trodCells_3 : decode cX1_trodCells 3 = .ok (.istore_n 3, 1) := by decide +kernel
theorem dX1_trodCells_4 : decode cX1_trodCells 4 = .ok (.iload_n 3, 1) := by decide +kernel
theorem dX1_trodCells_5 : decode cX1_trodCells 5 = .ok (.aload_n 0, 1) := by decide +kernel
theorem dX1_trodCells_6 : decode cX1_trodCells 6 = .ok (.getfield 49, 3) := by decide +kernel
theorem dX1_trodCells_9 : decode cX1_trodCells 9 = .ok (.if_icmp .ge 20, 3) := by decide +kernel
theorem dX1_trodCells_12 : decode cX1_trodCells 12 = .ok (.lload_n 1, 1) := by decide +kernel
theorem dX1_trodCells_13 : decode cX1_trodCells 13 = .ok (.lconst 1, 1) := by decide +kernel
theorem dX1_trodCells_14 : decode cX1_trodCells 14 = .ok (.aload_n 0, 1) := by decide +kernel
theorem dX1_trodCells_15 : decode cX1_trodCells 15 = .ok (.getfield 33, 3) := by decide +kernel
theorem dX1_trodCells_18 : decode cX1_trodCells 18 = .ok (.iload_n 3, 1) := by decide +kernel
theorem dX1_trodCells_19 : decode cX1_trodCells 19 = .ok (.iaload, 1) := by decide +kernel
theorem dX1_trodCells_20 : decode cX1_trodCells 20 = .ok (.lshl, 1) := by decide +kernel
theorem dX1_trodCells_21 : decode cX1_trodCells 21 = .ok (.lor, 1) := by decide +kernel
theorem dX1_trodCells_22 : decode cX1_trodCells 22 = .ok (.lstore_n 1, 1) := by decide +kernel
theorem dX1_trodCells_23 : decode cX1_trodCells 23 = .ok (.iinc 3 1, 3) := by decide +kernel
theorem dX1_trodCells_26 : decode cX1_trodCells 26 = .ok (.goto (-22), 3) := by decide +kernel
theorem dX1_trodCells_29 : decode cX1_trodCells 29 = .ok (.lload_n 1, 1) := by decide +kernel
theorem dX1_trodCells_30 : decode cX1_trodCells 30 = .ok (.lreturn, 1) := by decide +kernel
theorem dX1_hollows_0 : decode cX1_hollows 0 = .ok (.lconst 0, 1) := by decide +kernel
theorem dX1_hollows_1 : decode cX1_hollows 1 = .ok (.lstore_n 1, 1) := by decide +kernel
theorem dX1_hollows_2 : decode cX1_hollows 2 = .ok (.iconst 0, 1) := by decide +kernel
theorem dX1_hollows_3 : decode cX1_hollows 3 = .ok (.istore_n 3, 1) := by decide +kernel
theorem dX1_hollows_4 : decode cX1_hollows 4 = .ok (.iload_n 3, 1) := by decide +kernel
theorem dX1_hollows_5 : decode cX1_hollows 5 = .ok (.bipush 32, 2) := by decide +kernel
theorem dX1_hollows_7 : decode cX1_hollows 7 = .ok (.if_icmp .ge 24, 3) := by decide +kernel
theorem dX1_hollows_10 : decode cX1_hollows 10 = .ok (.aload_n 0, 1) := by decide +kernel
theorem dX1_hollows_11 : decode cX1_hollows 11 = .ok (.getfield 21, 3) := by decide +kernel
theorem dX1_hollows_14 : decode cX1_hollows 14 = .ok (.iload_n 3, 1) := by decide +kernel
theorem dX1_hollows_15 : decode cX1_hollows 15 = .ok (.iaload, 1) := by decide +kernel
theorem dX1_hollows_16 : decode cX1_hollows 16 = .ok (.ifCond .ge 9, 3) := by decide +kernel
theorem dX1_hollows_19 : decode cX1_hollows 19 = .ok (.lload_n 1, 1) := by decide +kernel
theorem dX1_hollows_20 : decode cX1_hollows 20 = .ok (.lconst 1, 1) := by decide +kernel
theorem dX1_hollows_21 : decode cX1_hollows 21 = .ok (.iload_n 3, 1) := by decide +kernel
theorem dX1_hollows_22 : decode cX1_hollows 22 = .ok (.lshl, 1) := by decide +kernel
theorem dX1_hollows_23 : decode cX1_hollows 23 = .ok (.lor, 1) := by decide +kernel
theorem dX1_hollows_24 : decode cX1_hollows 24 = .ok (.lstore_n 1, 1) := by decide +kernel
theorem dX1_hollows_25 : decode cX1_hollows 25 = .ok (.iinc 3 1, 3) := by decide +kernel
theorem dX1_hollows_28 : decode cX1_hollows 28 = .ok (.goto (-24), 3) := by decide +kernel
theorem dX1_hollows_31 : decode cX1_hollows 31 = .ok (.lload_n 1, 1) := by decide +kernel
theorem dX1_hollows_32 : decode cX1_hollows 32 = .ok (.lreturn, 1) := by decide +kernel
theorem dX1_partOfRow_0 : decode cX1_partOfRow 0 = .ok (.iload_n 2, 1) := by decide +kernel
theorem dX1_partOfRow_1 : decode cX1_partOfRow 1 = .ok (.lookupswitch 46 #[(0, 27), (1, 34)], 27) := by decide +kernel
theorem dX1_partOfRow_28 : decode cX1_partOfRow 28 = .ok (.aload_n 0, 1) := by decide +kernel
theorem dX1_partOfRow_29 : decode cX1_partOfRow 29 = .ok (.getfield 30, 3) := by decide +kernel
theorem dX1_partOfRow_32 : decode cX1_partOfRow 32 = .ok (.iload_n 1, 1) := by decide +kernel
theorem dX1_partOfRow_33 : decode cX1_partOfRow 33 = .ok (.iaload, 1) := by decide +kernel
theorem dX1_partOfRow_34 : decode cX1_partOfRow 34 = .ok (.ireturn, 1) := by decide +kernel
theorem dX1_partOfRow_35 : decode cX1_partOfRow 35 = .ok (.aload_n 0, 1) := by decide +kernel
theorem dX1_partOfRow_36 : decode cX1_partOfRow 36 = .ok (.getfield 18, 3) := by decide +kernel
theorem dX1_partOfRow_39 : decode cX1_partOfRow 39 = .ok (.aload_n 0, 1) := by decide +kernel
theorem dX1_partOfRow_40 : decode cX1_partOfRow 40 = .ok (.getfield 33, 3) := by decide +kernel
theorem dX1_partOfRow_43 : decode cX1_partOfRow 43 = .ok (.iload_n 1, 1) := by decide +kernel
theorem dX1_partOfRow_44 : decode cX1_partOfRow 44 = .ok (.iaload, 1) := by decide +kernel
theorem dX1_partOfRow_45 : decode cX1_partOfRow 45 = .ok (.iaload, 1) := by decide +kernel
theorem dX1_partOfRow_46 : decode cX1_partOfRow 46 = .ok (.ireturn, 1) := by decide +kernel
theorem dX1_partOfRow_47 : decode cX1_partOfRow 47 = .ok (.aload_n 0, 1) := by decide +kernel
theorem dX1_partOfRow_48 : decode cX1_partOfRow 48 = .ok (.invokevirtual 99, 3) := by decide +kernel
theorem dX1_partOfRow_51 : decode cX1_partOfRow 51 = .ok (.ireturn, 1) := by decide +kernel
theorem dX1_passYears_0 : decode cX1_passYears 0 = .ok (.iconst 0, 1) := by decide +kernel
theorem dX1_passYears_1 : decode cX1_passYears 1 = .ok (.istore_n 2, 1) := by decide +kernel
theorem dX1_passYears_2 : decode cX1_passYears 2 = .ok (.iload_n 2, 1) := by decide +kernel
theorem dX1_passYears_3 : decode cX1_passYears 3 = .ok (.iload_n 1, 1) := by decide +kernel
theorem dX1_passYears_4 : decode cX1_passYears 4 = .ok (.if_icmp .ge 13, 3) := by decide +kernel
theorem dX1_passYears_7 : decode cX1_passYears 7 = .ok (.aload_n 0, 1) := by decide +kernel
theorem dX1_passYears_8 : decode cX1_passYears 8 = .ok (.invokevirtual 103, 3) := by decide +kernel
theorem dX1_passYears_11 : decode cX1_passYears 11 = .ok (.iinc 2 1, 3) := by decide +kernel
theorem dX1_passYears_14 : decode cX1_passYears 14 = .ok (.goto (-12), 3) := by decide +kernel
theorem dX1_passYears_17 : decode cX1_passYears 17 = .ok (.return_, 1) := by decide +kernel
theorem dX1_passYear_0 : decode cX1_passYear 0 = .ok (.aload_n 0, 1) := by decide +kernel
theorem dX1_passYear_1 : decode cX1_passYear 1 = .ok (.invokevirtual 106, 3) := by decide +kernel
theorem dX1_passYear_4 : decode cX1_passYear 4 = .ok (.aload_n 0, 1) := by decide +kernel
theorem dX1_passYear_5 : decode cX1_passYear 5 = .ok (.invokevirtual 109, 3) := by decide +kernel
theorem dX1_passYear_8 : decode cX1_passYear 8 = .ok (.aload_n 0, 1) := by decide +kernel
theorem dX1_passYear_9 : decode cX1_passYear 9 = .ok (.invokevirtual 112, 3) := by decide +kernel
theorem dX1_passYear_12 : decode cX1_passYear 12 = .ok (.aload_n 0, 1) := by decide +kernel
theorem dX1_passYear_13 : decode cX1_passYear 13 = .ok (.dup, 1) := by decide +kernel
theorem dX1_passYear_14 : decode cX1_passYear 14 = .ok (.getfield 46, 3) := by decide +kernel
theorem dX1_passYear_17 : decode cX1_passYear 17 = .ok (.iconst 1, 1) := by decide +kernel
theorem dX1_passYear_18 : decode cX1_passYear 18 = .ok (.iadd, 1) := by decide +kernel
theorem dX1_passYear_19 : decode cX1_passYear 19 = .ok (.putfield 46, 3) := by decide +kernel
theorem dX1_passYear_22 : decode cX1_passYear 22 = .ok (.return_, 1) := by decide +kernel
theorem dX1_passYearByDraws_0 : decode cX1_passYearByDraws 0 = .ok (.aload_n 0, 1) := by decide +kernel
theorem dX1_passYearByDraws_1 : decode cX1_passYearByDraws 1 = .ok (.getfield 49, 3) := by decide +kernel
theorem dX1_passYearByDraws_4 : decode cX1_passYearByDraws 4 = .ok (.ifCond .le 39, 3) := by decide +kernel
theorem dX1_passYearByDraws_7 : decode cX1_passYearByDraws 7 = .ok (.aload_n 0, 1) := by decide +kernel
theorem dX1_passYearByDraws_8 : decode cX1_passYearByDraws 8 = .ok (.invokevirtual 115, 3) := by decide +kernel
theorem dX1_passYearByDraws_11 : decode cX1_passYearByDraws 11 = .ok (.aload_n 0, 1) := by decide +kernel
theorem dX1_passYearByDraws_12 : decode cX1_passYearByDraws 12 = .ok (.getfield 49, 3) := by decide +kernel
theorem dX1_passYearByDraws_15 : decode cX1_passYearByDraws 15 = .ok (.irem, 1) := by decide +kernel
theorem dX1_passYearByDraws_16 : decode cX1_passYearByDraws 16 = .ok (.istore_n 1, 1) := by decide +kernel
theorem dX1_passYearByDraws_17 : decode cX1_passYearByDraws 17 = .ok (.aload_n 0, 1) := by decide +kernel
theorem dX1_passYearByDraws_18 : decode cX1_passYearByDraws 18 = .ok (.invokevirtual 115, 3) := by decide +kernel
theorem dX1_passYearByDraws_21 : decode cX1_passYearByDraws 21 = .ok (.bipush 100, 2) := by decide +kernel
theorem dX1_passYearByDraws_23 : decode cX1_passYearByDraws 23 = .ok (.irem, 1) := by decide +kernel
theorem dX1_passYearByDraws_24 : decode cX1_passYearByDraws 24 = .ok (.aload_n 0, 1) := by decide +kernel
theorem dX1_passYearByDraws_25 : decode cX1_passYearByDraws 25 = .ok (.getfield 9, 3) := by decide +kernel
theorem dX1_passYearByDraws_28 : decode cX1_passYearByDraws 28 = .ok (.iconst 3, 1) := by decide +kernel
theorem dX1_passYearByDraws_29 : decode cX1_passYearByDraws 29 = .ok (.iaload, 1) := by decide +kernel
theorem dX1_passYearByDraws_30 : decode cX1_passYearByDraws 30 = .ok (.if_icmp .ge 13, 3) := by decide +kernel
theorem dX1_passYearByDraws_33 : decode cX1_passYearByDraws 33 = .ok (.aload_n 0, 1) := by decide +kernel
theorem dX1_passYearByDraws_34 : decode cX1_passYearByDraws 34 = .ok (.getfield 30, 3) := by decide +kernel
theorem dX1_passYearByDraws_37 : decode cX1_passYearByDraws 37 = .ok (.iload_n 1, 1) := by decide +kernel
theorem dX1_passYearByDraws_38 : decode cX1_passYearByDraws 38 = .ok (.dup2, 1) := by decide +kernel
theorem dX1_passYearByDraws_39 : decode cX1_passYearByDraws 39 = .ok (.iaload, 1) := by decide +kernel
theorem dX1_passYearByDraws_40 : decode cX1_passYearByDraws 40 = .ok (.iconst 2, 1) := by decide +kernel
theorem dX1_passYearByDraws_41 : decode cX1_passYearByDraws 41 = .ok (.idiv, 1) := by decide +kernel
theorem dX1_passYearByDraws_42 : decode cX1_passYearByDraws 42 = .ok (.iastore, 1) := by decide +kernel
theorem dX1_passYearByDraws_43 : decode cX1_passYearByDraws 43 = .ok (.aload_n 0, 1) := by decide +kernel
theorem dX1_passYearByDraws_44 : decode cX1_passYearByDraws 44 = .ok (.invokevirtual 103, 3) := by decide +kernel
theorem dX1_passYearByDraws_47 : decode cX1_passYearByDraws 47 = .ok (.return_, 1) := by decide +kernel
theorem dX1_draw_0 : decode cX1_draw 0 = .ok (.aload_n 0, 1) := by decide +kernel
theorem dX1_draw_1 : decode cX1_draw 1 = .ok (.aload_n 0, 1) := by decide +kernel
theorem dX1_draw_2 : decode cX1_draw 2 = .ok (.getfield 36, 3) := by decide +kernel
theorem dX1_draw_5 : decode cX1_draw 5 = .ok (.ldc 118, 2) := by decide +kernel
theorem dX1_draw_7 : decode cX1_draw 7 = .ok (.imul, 1) := by decide +kernel
theorem dX1_draw_8 : decode cX1_draw 8 = .ok (.sipush 12345, 3) := by decide +kernel
theorem dX1_draw_11 : decode cX1_draw 11 = .ok (.iadd, 1) := by decide +kernel
theorem dX1_draw_12 : decode cX1_draw 12 = .ok (.putfield 36, 3) := by decide +kernel
theorem dX1_draw_15 : decode cX1_draw 15 = .ok (.aload_n 0, 1) := by decide +kernel
theorem dX1_draw_16 : decode cX1_draw 16 = .ok (.getfield 36, 3) := by decide +kernel
theorem dX1_draw_19 : decode cX1_draw 19 = .ok (.bipush 16, 2) := by decide +kernel
theorem dX1_draw_21 : decode cX1_draw 21 = .ok (.iushr, 1) := by decide +kernel
theorem dX1_draw_22 : decode cX1_draw 22 = .ok (.ireturn, 1) := by decide +kernel
theorem dX1_pour_0 : decode cX1_pour 0 = .ok (.aload_n 0, 1) := by decide +kernel
theorem dX1_pour_1 : decode cX1_pour 1 = .ok (.getfield 18, 3) := by decide +kernel
theorem dX1_pour_4 : decode cX1_pour 4 = .ok (.iload_n 1, 1) := by decide +kernel
theorem dX1_pour_5 : decode cX1_pour 5 = .ok (.bipush 99, 2) := by decide +kernel
theorem dX1_pour_7 : decode cX1_pour 7 = .ok (.aload_n 0, 1) := by decide +kernel
theorem dX1_pour_8 : decode cX1_pour 8 = .ok (.getfield 18, 3) := by decide +kernel
theorem dX1_pour_11 : decode cX1_pour 11 = .ok (.iload_n 1, 1) := by decide +kernel
theorem dX1_pour_12 : decode cX1_pour 12 = .ok (.iaload, 1) := by decide +kernel
theorem dX1_pour_13 : decode cX1_pour 13 = .ok (.iload_n 2, 1) := by decide +kernel
theorem dX1_pour_14 : decode cX1_pour 14 = .ok (.iadd, 1) := by decide +kernel
theorem dX1_pour_15 : decode cX1_pour 15 = .ok (.invokestatic 119, 3) := by decide +kernel
theorem dX1_pour_18 : decode cX1_pour 18 = .ok (.iastore, 1) := by decide +kernel
theorem dX1_pour_19 : decode cX1_pour 19 = .ok (.return_, 1) := by decide +kernel
theorem dX1_wellUp_0 : decode cX1_wellUp 0 = .ok (.iconst 0, 1) := by decide +kernel
theorem dX1_wellUp_1 : decode cX1_wellUp 1 = .ok (.istore_n 1, 1) := by decide +kernel
theorem dX1_wellUp_2 : decode cX1_wellUp 2 = .ok (.iload_n 1, 1) := by decide +kernel
theorem dX1_wellUp_3 : decode cX1_wellUp 3 = .ok (.aload_n 0, 1) := by decide +kernel
theorem dX1_wellUp_4 : decode cX1_wellUp 4 = .ok (.getfield 49, 3) := by decide +kernel
theorem dX1_wellUp_7 : decode cX1_wellUp 7 = .ok (.if_icmp .ge 62, 3) := by decide +kernel
theorem dX1_wellUp_10 : decode cX1_wellUp 10 = .ok (.aload_n 0, 1) := by decide +kernel
theorem dX1_wellUp_11 : decode cX1_wellUp 11 = .ok (.aload_n 0, 1) := by decide +kernel
theorem dX1_wellUp_12 : decode cX1_wellUp 12 = .ok (.getfield 33, 3) := by decide +kernel
theorem dX1_wellUp_15 : decode cX1_wellUp 15 = .ok (.iload_n 1, 1) := by decide +kernel
theorem dX1_wellUp_16 : decode cX1_wellUp 16 = .ok (.iaload, 1) := by decide +kernel
theorem dX1_wellUp_17 : decode cX1_wellUp 17 = .ok (.aload_n 0, 1) := by decide +kernel
theorem dX1_wellUp_18 : decode cX1_wellUp 18 = .ok (.iload_n 1, 1) := by decide +kernel
theorem dX1_wellUp_19 : decode cX1_wellUp 19 = .ok (.invokevirtual 85, 3) := by decide +kernel
theorem dX1_wellUp_22 : decode cX1_wellUp 22 = .ok (.invokevirtual 122, 3) := by decide +kernel
theorem dX1_wellUp_25 : decode cX1_wellUp 25 = .ok (.iconst 0, 1) := by decide +kernel
theorem dX1_wellUp_26 : decode cX1_wellUp 26 = .ok (.istore_n 2, 1) := by decide +kernel
theorem dX1_wellUp_27 : decode cX1_wellUp 27 = .ok (.iload_n 2, 1) := by decide +kernel
theorem dX1_wellUp_28 : decode cX1_wellUp 28 = .ok (.iload_n 1, 1) := by decide +kernel
theorem dX1_wellUp_29 : decode cX1_wellUp 29 = .ok (.if_icmp .ge 34, 3) := by decide +kernel
theorem dX1_wellUp_32 : decode cX1_wellUp 32 = .ok (.aload_n 0, 1) := by decide +kernel
theorem dX1_wellUp_33 : decode cX1_wellUp 33 = .ok (.iload_n 1, 1) := by decide +kernel
theorem dX1_wellUp_34 : decode cX1_wellUp 34 = .ok (.iload_n 2, 1) := by decide +kernel
theorem dX1_wellUp_35 : decode cX1_wellUp 35 = .ok (.invokevirtual 81, 3) := by decide +kernel
theorem dX1_wellUp_38 : decode cX1_wellUp 38 = .ok (.ifCond .eq 19, 3) := by decide +kernel
theorem dX1_wellUp_41 : decode cX1_wellUp 41 = .ok (.aload_n 0, 1) := by decide +kernel
theorem dX1_wellUp_42 : decode cX1_wellUp 42 = .ok (.aload_n 0, 1) := by decide +kernel
theorem dX1_wellUp_43 : decode cX1_wellUp 43 = .ok (.getfield 33, 3) := by decide +kernel
theorem dX1_wellUp_46 : decode cX1_wellUp 46 = .ok (.iload_n 1, 1) := by decide +kernel
theorem dX1_wellUp_47 : decode cX1_wellUp 47 = .ok (.iaload, 1) := by decide +kernel
theorem dX1_wellUp_48 : decode cX1_wellUp 48 = .ok (.aload_n 0, 1) := by decide +kernel
theorem dX1_wellUp_49 : decode cX1_wellUp 49 = .ok (.getfield 9, 3) := by decide +kernel
theorem dX1_wellUp_52 : decode cX1_wellUp 52 = .ok (.iconst 1, 1) := by decide +kernel
theorem dX1_wellUp_53 : decode cX1_wellUp 53 = .ok (.iaload, 1) := by decide +kernel
theorem dX1_wellUp_54 : decode cX1_wellUp 54 = .ok (.invokevirtual 122, 3) := by decide +kernel
theorem dX1_wellUp_57 : decode cX1_wellUp 57 = .ok (.iinc 2 1, 3) := by decide +kernel
theorem dX1_wellUp_60 : decode cX1_wellUp 60 = .ok (.goto (-33), 3) := by decide +kernel
theorem dX1_wellUp_63 : decode cX1_wellUp 63 = .ok (.iinc 1 1, 3) := by decide +kernel
theorem dX1_wellUp_66 : decode cX1_wellUp 66 = .ok (.goto (-64), 3) := by decide +kernel
theorem dX1_wellUp_69 : decode cX1_wellUp 69 = .ok (.return_, 1) := by decide +kernel
theorem dX1_runDown_0 : decode cX1_runDown 0 = .ok (.iconst 0, 1) := by decide +kernel
theorem dX1_runDown_1 : decode cX1_runDown 1 = .ok (.istore_n 1, 1) := by decide +kernel
theorem dX1_runDown_2 : decode cX1_runDown 2 = .ok (.iload_n 1, 1) := by decide +kernel
theorem dX1_runDown_3 : decode cX1_runDown 3 = .ok (.bipush 32, 2) := by decide +kernel
theorem dX1_runDown_5 : decode cX1_runDown 5 = .ok (.if_icmp .ge 59, 3) := by decide +kernel
theorem dX1_runDown_8 : decode cX1_runDown 8 = .ok (.aload_n 0, 1) := by decide +kernel
theorem dX1_runDown_9 : decode cX1_runDown 9 = .ok (.getfield 18, 3) := by decide +kernel
theorem dX1_runDown_12 : decode cX1_runDown 12 = .ok (.iload_n 1, 1) := by decide +kernel
theorem dX1_runDown_13 : decode cX1_runDown 13 = .ok (.iaload, 1) := by decide +kernel
theorem dX1_runDown_14 : decode cX1_runDown 14 = .ok (.aload_n 0, 1) := by decide +kernel
theorem dX1_runDown_15 : decode cX1_runDown 15 = .ok (.getfield 9, 3) := by decide +kernel
theorem dX1_runDown_18 : decode cX1_runDown 18 = .ok (.iconst 2, 1) := by decide +kernel
theorem dX1_runDown_19 : decode cX1_runDown 19 = .ok (.iaload, 1) := by decide +kernel
theorem dX1_runDown_20 : decode cX1_runDown 20 = .ok (.isub, 1) := by decide +kernel
theorem dX1_runDown_21 : decode cX1_runDown 21 = .ok (.iconst 2, 1) := by decide +kernel
theorem dX1_runDown_22 : decode cX1_runDown 22 = .ok (.idiv, 1) := by decide +kernel
theorem dX1_runDown_23 : decode cX1_runDown 23 = .ok (.istore_n 2, 1) := by decide +kernel
theorem dX1_runDown_24 : decode cX1_runDown 24 = .ok (.iload_n 2, 1) := by decide +kernel
theorem dX1_runDown_25 : decode cX1_runDown 25 = .ok (.ifCond .le 33, 3) := by decide +kernel
theorem dX1_runDown_28 : decode cX1_runDown 28 = .ok (.aload_n 0, 1) := by decide +kernel
theorem dX1_runDown_29 : decode cX1_runDown 29 = .ok (.getfield 21, 3) := by decide +kernel
theorem dX1_runDown_32 : decode cX1_runDown 32 = .ok (.iload_n 1, 1) := by decide +kernel
theorem dX1_runDown_33 : decode cX1_runDown 33 = .ok (.iaload, 1) := by decide +kernel
theorem dX1_runDown_34 : decode cX1_runDown 34 = .ok (.ifCond .lt 24, 3) := by decide +kernel
theorem dX1_runDown_37 : decode cX1_runDown 37 = .ok (.aload_n 0, 1) := by decide +kernel
theorem dX1_runDown_38 : decode cX1_runDown 38 = .ok (.getfield 18, 3) := by decide +kernel
theorem dX1_runDown_41 : decode cX1_runDown 41 = .ok (.iload_n 1, 1) := by decide +kernel
theorem dX1_runDown_42 : decode cX1_runDown 42 = .ok (.dup2, 1) := by decide +kernel
theorem dX1_runDown_43 : decode cX1_runDown 43 = .ok (.iaload, 1) := by decide +kernel
theorem dX1_runDown_44 : decode cX1_runDown 44 = .ok (.iload_n 2, 1) := by decide +kernel
theorem dX1_runDown_45 : decode cX1_runDown 45 = .ok (.isub, 1) := by decide +kernel
theorem dX1_runDown_46 : decode cX1_runDown 46 = .ok (.iastore, 1) := by decide +kernel
theorem dX1_runDown_47 : decode cX1_runDown 47 = .ok (.aload_n 0, 1) := by decide +kernel
theorem dX1_runDown_48 : decode cX1_runDown 48 = .ok (.aload_n 0, 1) := by decide +kernel
theorem dX1_runDown_49 : decode cX1_runDown 49 = .ok (.getfield 21, 3) := by decide +kernel
theorem dX1_runDown_52 : decode cX1_runDown 52 = .ok (.iload_n 1, 1) := by decide +kernel
theorem dX1_runDown_53 : decode cX1_runDown 53 = .ok (.iaload, 1) := by decide +kernel
theorem dX1_runDown_54 : decode cX1_runDown 54 = .ok (.iload_n 2, 1) := by decide +kernel
theorem dX1_runDown_55 : decode cX1_runDown 55 = .ok (.invokevirtual 122, 3) := by decide +kernel
theorem dX1_runDown_58 : decode cX1_runDown 58 = .ok (.iinc 1 1, 3) := by decide +kernel
theorem dX1_runDown_61 : decode cX1_runDown 61 = .ok (.goto (-59), 3) := by decide +kernel
theorem dX1_runDown_64 : decode cX1_runDown 64 = .ok (.return_, 1) := by decide +kernel
theorem dX1_changeMinds_0 : decode cX1_changeMinds 0 = .ok (.iconst 0, 1) := by decide +kernel
theorem dX1_changeMinds_1 : decode cX1_changeMinds 1 = .ok (.istore_n 1, 1) := by decide +kernel
theorem dX1_changeMinds_2 : decode cX1_changeMinds 2 = .ok (.iload_n 1, 1) := by decide +kernel
theorem dX1_changeMinds_3 : decode cX1_changeMinds 3 = .ok (.aload_n 0, 1) := by decide +kernel
theorem dX1_changeMinds_4 : decode cX1_changeMinds 4 = .ok (.getfield 49, 3) := by decide +kernel
theorem dX1_changeMinds_7 : decode cX1_changeMinds 7 = .ok (.if_icmp .ge 62, 3) := by decide +kernel
theorem dX1_changeMinds_10 : decode cX1_changeMinds 10 = .ok (.aload_n 0, 1) := by decide +kernel
theorem dX1_changeMinds_11 : decode cX1_changeMinds 11 = .ok (.iload_n 1, 1) := by decide +kernel
theorem dX1_changeMinds_12 : decode cX1_changeMinds 12 = .ok (.invokevirtual 69, 3) := by decide +kernel
theorem dX1_changeMinds_15 : decode cX1_changeMinds 15 = .ok (.ifCond .ne 48, 3) := by decide +kernel
theorem dX1_changeMinds_18 : decode cX1_changeMinds 18 = .ok (.aload_n 0, 1) := by decide +kernel
theorem dX1_changeMinds_19 : decode cX1_changeMinds 19 = .ok (.aload_n 0, 1) := by decide +kernel
theorem dX1_changeMinds_20 : decode cX1_changeMinds 20 = .ok (.getfield 33, 3) := by decide +kernel
theorem dX1_changeMinds_23 : decode cX1_changeMinds 23 = .ok (.iload_n 1, 1) := by decide +kernel
theorem dX1_changeMinds_24 : decode cX1_changeMinds 24 = .ok (.iaload, 1) := by decide +kernel
theorem dX1_changeMinds_25 : decode cX1_changeMinds 25 = .ok (.invokevirtual 96, 3) := by decide +kernel
theorem dX1_changeMinds_28 : decode cX1_changeMinds 28 = .ok (.ifCond .eq 12, 3) := by decide +kernel
theorem dX1_changeMinds_31 : decode cX1_changeMinds 31 = .ok (.aload_n 0, 1) := by decide +kernel
theorem dX1_changeMinds_32 : decode cX1_changeMinds 32 = .ok (.iload_n 1, 1) := by decide +kernel
theorem dX1_changeMinds_33 : decode cX1_changeMinds 33 = .ok (.invokevirtual 126, 3) := by decide +kernel
theorem dX1_changeMinds_36 : decode cX1_changeMinds 36 = .ok (.ineg, 1) := by decide +kernel
theorem dX1_changeMinds_37 : decode cX1_changeMinds 37 = .ok (.goto 8, 3) := by decide +kernel
theorem dX1_changeMinds_40 : decode cX1_changeMinds 40 = .ok (.aload_n 0, 1) := by decide +kernel
theorem dX1_changeMinds_41 : decode cX1_changeMinds 41 = .ok (.iload_n 1, 1) := by decide +kernel
theorem dX1_changeMinds_42 : decode cX1_changeMinds 42 = .ok (.invokevirtual 129, 3) := by decide +kernel
theorem dX1_changeMinds_45 : decode cX1_changeMinds 45 = .ok (.istore_n 2, 1) := by decide +kernel
theorem dX1_changeMinds_46 : decode cX1_changeMinds 46 = .ok (.aload_n 0, 1) := by decide +kernel
theorem dX1_changeMinds_47 : decode cX1_changeMinds 47 = .ok (.getfield 30, 3) := by decide +kernel
theorem dX1_changeMinds_50 : decode cX1_changeMinds 50 = .ok (.iload_n 1, 1) := by decide +kernel
theorem dX1_changeMinds_51 : decode cX1_changeMinds 51 = .ok (.aload_n 0, 1) := by decide +kernel
theorem dX1_changeMinds_52 : decode cX1_changeMinds 52 = .ok (.getfield 30, 3) := by decide +kernel
theorem dX1_changeMinds_55 : decode cX1_changeMinds 55 = .ok (.iload_n 1, 1) := by decide +kernel
theorem dX1_changeMinds_56 : decode cX1_changeMinds 56 = .ok (.iaload, 1) := by decide +kernel
theorem dX1_changeMinds_57 : decode cX1_changeMinds 57 = .ok (.iload_n 2, 1) := by decide +kernel
theorem dX1_changeMinds_58 : decode cX1_changeMinds 58 = .ok (.iadd, 1) := by decide +kernel
theorem dX1_changeMinds_59 : decode cX1_changeMinds 59 = .ok (.invokestatic 132, 3) := by decide +kernel
theorem dX1_changeMinds_62 : decode cX1_changeMinds 62 = .ok (.iastore, 1) := by decide +kernel
theorem dX1_changeMinds_63 : decode cX1_changeMinds 63 = .ok (.iinc 1 1, 3) := by decide +kernel
theorem dX1_changeMinds_66 : decode cX1_changeMinds 66 = .ok (.goto (-64), 3) := by decide +kernel
theorem dX1_changeMinds_69 : decode cX1_changeMinds 69 = .ok (.return_, 1) := by decide +kernel
theorem dX2_init_0 : decode cX2_init 0 = .ok (.aload_n 0, 1) := by decide +kernel
theorem dX2_init_1 : decode cX2_init 1 = .ok (.invokespecial 3, 3) := by decide +kernel
theorem dX2_init_4 : decode cX2_init 4 = .ok (.aload_n 0, 1) := by decide +kernel
theorem dX2_init_5 : decode cX2_init 5 = .ok (.sipush 200, 3) := by decide +kernel
theorem dX2_init_8 : decode cX2_init 8 = .ok (.newarray .byte, 2) := by decide +kernel
theorem dX2_init_10 : decode cX2_init 10 = .ok (.putfield 9, 3) := by decide +kernel
theorem dX2_init_13 : decode cX2_init 13 = .ok (.return_, 1) := by decide +kernel
theorem dX2_takes_0 : decode cX2_takes 0 = .ok (.iload_n 3, 1) := by decide +kernel
theorem dX2_takes_1 : decode cX2_takes 1 = .ok (.sipush 200, 3) := by decide +kernel
theorem dX2_takes_4 : decode cX2_takes 4 = .ok (.aload_n 0, 1) := by decide +kernel
theorem dX2_takes_5 : decode cX2_takes 5 = .ok (.getfield 15, 3) := by decide +kernel
theorem dX2_takes_8 : decode cX2_takes 8 = .ok (.isub, 1) := by decide +kernel
theorem dX2_takes_9 : decode cX2_takes 9 = .ok (.if_icmp .le 5, 3) := by decide +kernel
theorem dX2_takes_12 : decode cX2_takes 12 = .ok (.iconst 0, 1) := by decide +kernel
theorem dX2_takes_13 : decode cX2_takes 13 = .ok (.ireturn, 1) := by decide +kernel
theorem dX2_takes_14 : decode cX2_takes 14 = .ok (.iconst 0, 1) := by decide +kernel
theorem dX2_takes_15 : decode cX2_takes 15 = .ok (.istore 4, 2) := by decide +kernel
theorem dX2_takes_17 : decode cX2_takes 17 = .ok (.iload 4, 2) := by decide +kernel
theorem dX2_takes_19 : decode cX2_takes 19 = .ok (.iload_n 3, 1) := by decide +kernel
theorem dX2_takes_20 : decode cX2_takes 20 = .ok (.if_icmp .ge 37, 3) := by decide +kernel
theorem dX2_takes_23 : decode cX2_takes 23 = .ok (.aload_n 0, 1) := by decide +kernel
theorem dX2_takes_24 : decode cX2_takes 24 = .ok (.getfield 9, 3) := by decide +kernel
theorem dX2_takes_27 : decode cX2_takes 27 = .ok (.aload_n 0, 1) := by decide +kernel
theorem dX2_takes_28 : decode cX2_takes 28 = .ok (.getfield 15, 3) := by decide +kernel
theorem dX2_takes_31 : decode cX2_takes 31 = .ok (.lload_n 1, 1) := by decide +kernel
theorem dX2_takes_32 : decode cX2_takes 32 = .ok (.bipush 8, 2) := by decide +kernel
theorem dX2_takes_34 : decode cX2_takes 34 = .ok (.iload 4, 2) := by decide +kernel
theorem dX2_takes_36 : decode cX2_takes 36 = .ok (.imul, 1) := by decide +kernel
theorem dX2_takes_37 : decode cX2_takes 37 = .ok (.lushr, 1) := by decide +kernel
theorem dX2_takes_38 : decode cX2_takes 38 = .ok (.l2i, 1) := by decide +kernel
theorem dX2_takes_39 : decode cX2_takes 39 = .ok (.i2b, 1) := by decide +kernel
theorem dX2_takes_40 : decode cX2_takes 40 = .ok (.bastore, 1) := by decide +kernel
theorem dX2_takes_41 : decode cX2_takes 41 = .ok (.aload_n 0, 1) := by decide +kernel
theorem dX2_takes_42 : decode cX2_takes 42 = .ok (.dup, 1) := by decide +kernel
theorem dX2_takes_43 : decode cX2_takes 43 = .ok (.getfield 15, 3) := by decide +kernel
theorem dX2_takes_46 : decode cX2_takes 46 = .ok (.iconst 1, 1) := by decide +kernel
theorem dX2_takes_47 : decode cX2_takes 47 = .ok (.iadd, 1) := by decide +kernel
theorem dX2_takes_48 : decode cX2_takes 48 = .ok (.putfield 15, 3) := by decide +kernel
theorem dX2_takes_51 : decode cX2_takes 51 = .ok (.iinc 4 1, 3) := by decide +kernel
theorem dX2_takes_54 : decode cX2_takes 54 = .ok (.goto (-37), 3) := by decide +kernel
theorem dX2_takes_57 : decode cX2_takes 57 = .ok (.iconst 1, 1) := by decide +kernel
theorem dX2_takes_58 : decode cX2_takes 58 = .ok (.ireturn, 1) := by decide +kernel
theorem dX2_readInto_0 : decode cX2_readInto 0 = .ok (.aload_n 0, 1) := by decide +kernel
theorem dX2_readInto_1 : decode cX2_readInto 1 = .ok (.iconst 0, 1) := by decide +kernel
theorem dX2_readInto_2 : decode cX2_readInto 2 = .ok (.putfield 19, 3) := by decide +kernel
theorem dX2_readInto_5 : decode cX2_readInto 5 = .ok (.aload_n 0, 1) := by decide +kernel
theorem dX2_readInto_6 : decode cX2_readInto 6 = .ok (.iconst (-1), 1) := by decide +kernel
theorem dX2_readInto_7 : decode cX2_readInto 7 = .ok (.putfield 22, 3) := by decide +kernel
theorem dX2_readInto_10 : decode cX2_readInto 10 = .ok (.aload_n 0, 1) := by decide +kernel
theorem dX2_readInto_11 : decode cX2_readInto 11 = .ok (.invokevirtual 25, 3) := by decide +kernel
theorem dX2_readInto_14 : decode cX2_readInto 14 = .ok (.iconst 0, 1) := by decide +kernel
theorem dX2_readInto_15 : decode cX2_readInto 15 = .ok (.istore_n 2, 1) := by decide +kernel
theorem dX2_readInto_16 : decode cX2_readInto 16 = .ok (.iload_n 2, 1) := by decide +kernel
theorem dX2_readInto_17 : decode cX2_readInto 17 = .ok (.sipush 200, 3) := by decide +kernel
theorem dX2_readInto_20 : decode cX2_readInto 20 = .ok (.if_icmp .ge 42, 3) := by decide +kernel
theorem dX2_readInto_23 : decode cX2_readInto 23 = .ok (.aload_n 0, 1) := by decide +kernel
theorem dX2_readInto_24 : decode cX2_readInto 24 = .ok (.getfield 19, 3) := by decide +kernel
theorem dX2_readInto_27 : decode cX2_readInto 27 = .ok (.aload_n 0, 1) := by decide +kernel
theorem dX2_readInto_28 : decode cX2_readInto 28 = .ok (.getfield 15, 3) := by decide +kernel
theorem dX2_readInto_31 : decode cX2_readInto 31 = .ok (.if_icmp .ge 31, 3) := by decide +kernel
theorem dX2_readInto_34 : decode cX2_readInto 34 = .ok (.aload_n 0, 1) := by decide +kernel
theorem dX2_readInto_35 : decode cX2_readInto 35 = .ok (.getfield 22, 3) := by decide +kernel
theorem dX2_readInto_38 : decode cX2_readInto 38 = .ok (.ifCond .ge 24, 3) := by decide +kernel
theorem dX2_readInto_41 : decode cX2_readInto 41 = .ok (.aload_n 0, 1) := by decide +kernel
theorem dX2_readInto_42 : decode cX2_readInto 42 = .ok (.aload_n 1, 1) := by decide +kernel
theorem dX2_readInto_43 : decode cX2_readInto 43 = .ok (.invokevirtual 28, 3) := by decide +kernel
theorem dX2_readInto_46 : decode cX2_readInto 46 = .ok (.aload_n 0, 1) := by decide +kernel
theorem dX2_readInto_47 : decode cX2_readInto 47 = .ok (.bipush 59, 2) := by decide +kernel
theorem dX2_readInto_49 : decode cX2_readInto 49 = .ok (.invokevirtual 32, 3) := by decide +kernel
theorem dX2_readInto_52 : decode cX2_readInto 52 = .ok (.aload_n 0, 1) := by decide +kernel
theorem dX2_readInto_53 : decode cX2_readInto 53 = .ok (.invokevirtual 25, 3) := by decide +kernel
theorem dX2_readInto_56 : decode cX2_readInto 56 = .ok (.iinc 2 1, 3) := by decide +kernel
theorem dX2_readInto_59 : decode cX2_readInto 59 = .ok (.goto (-43), 3) := by decide +kernel
theorem dX2_readInto_62 : decode cX2_readInto 62 = .ok (.aload_n 0, 1) := by decide +kernel
theorem dX2_readInto_63 : decode cX2_readInto 63 = .ok (.getfield 22, 3) := by decide +kernel
theorem dX2_readInto_66 : decode cX2_readInto 66 = .ok (.ireturn, 1) := by decide +kernel
theorem dX2_readSentence_0 : decode cX2_readSentence 0 = .ok (.aload_n 0, 1) := by decide +kernel
theorem dX2_readSentence_1 : decode cX2_readSentence 1 = .ok (.invokevirtual 36, 3) := by decide +kernel
theorem dX2_readSentence_4 : decode cX2_readSentence 4 = .ok (.istore_n 2, 1) := by decide +kernel
theorem dX2_readSentence_5 : decode cX2_readSentence 5 = .ok (.aload_n 0, 1) := by decide +kernel
theorem dX2_readSentence_6 : decode cX2_readSentence 6 = .ok (.invokevirtual 40, 3) := by decide +kernel
theorem dX2_readSentence_9 : decode cX2_readSentence 9 = .ok (.istore_n 3, 1) := by decide +kernel
theorem dX2_readSentence_10 : decode cX2_readSentence 10 = .ok (.iload_n 2, 1) := by decide +kernel
theorem dX2_readSentence_11 : decode cX2_readSentence 11 = .ok (.ifCond .lt 12, 3) := by decide +kernel
theorem dX2_readSentence_14 : decode cX2_readSentence 14 = .ok (.aload_n 0, 1) := by decide +kernel
theorem dX2_readSentence_15 : decode cX2_readSentence 15 = .ok (.aload_n 1, 1) := by decide +kernel
theorem dX2_readSentence_16 : decode cX2_readSentence 16 = .ok (.iload_n 2, 1) := by decide +kernel
theorem dX2_readSentence_17 : decode cX2_readSentence 17 = .ok (.invokevirtual 43, 3) := by decide +kernel
theorem dX2_readSentence_20 : decode cX2_readSentence 20 = .ok (.goto 114, 3) := by decide +kernel
theorem dX2_readSentence_23 : decode cX2_readSentence 23 = .ok (.aload_n 0, 1) := by decide +kernel
theorem dX2_readSentence_24 : decode cX2_readSentence 24 = .ok (.ldc 47, 2) := by decide +kernel
theorem dX2_readSentence_26 : decode cX2_readSentence 26 = .ok (.invokevirtual 49, 3) := by decide +kernel
theorem dX2_readSentence_29 : decode cX2_readSentence 29 = .ok (.ifCond .eq 30, 3) := by decide +kernel
theorem dX2_readSentence_32 : decode cX2_readSentence 32 = .ok (.aload_n 0, 1) := by decide +kernel
theorem dX2_readSentence_33 : decode cX2_readSentence 33 = .ok (.ldc 47, 2) := by decide +kernel
theorem dX2_readSentence_35 : decode cX2_readSentence 35 = .ok (.invokevirtual 53, 3) := by decide +kernel
theorem dX2_readSentence_38 : decode cX2_readSentence 38 = .ok (.aload_n 0, 1) := by decide +kernel
theorem dX2_readSentence_39 : decode cX2_readSentence 39 = .ok (.invokevirtual 57, 3) := by decide +kernel
theorem dX2_readSentence_42 : decode cX2_readSentence 42 = .ok (.istore 4, 2) := by decide +kernel
theorem dX2_readSentence_44 : decode cX2_readSentence 44 = .ok (.aload_n 1, 1) := by decide +kernel
theorem dX2_readSentence_45 : decode cX2_readSentence 45 = .ok (.iload 4, 2) := by decide +kernel
theorem dX2_readSentence_47 : decode cX2_readSentence 47 = .ok (.aload_n 0, 1) := by decide +kernel
theorem dX2_readSentence_48 : decode cX2_readSentence 48 = .ok (.bipush 9, 2) := by decide +kernel
theorem dX2_readSentence_50 : decode cX2_readSentence 50 = .ok (.invokevirtual 60, 3) := by decide +kernel
theorem dX2_readSentence_53 : decode cX2_readSentence 53 = .ok (.invokevirtual 64, 3) := by decide +kernel
theorem dX2_readSentence_56 : decode cX2_readSentence 56 = .ok (.goto 78, 3) := by decide +kernel
theorem dX2_readSentence_59 : decode cX2_readSentence 59 = .ok (.aload_n 0, 1) := by decide +kernel
theorem dX2_readSentence_60 : decode cX2_readSentence 60 = .ok (.ldc 70, 2) := by decide +kernel
theorem dX2_readSentence_62 : decode cX2_readSentence 62 = .ok (.invokevirtual 49, 3) := by decide +kernel
theorem dX2_readSentence_65 : decode cX2_readSentence 65 = .ok (.ifCond .eq 31, 3) := by decide +kernel
theorem dX2_readSentence_68 : decode cX2_readSentence 68 = .ok (.aload_n 0, 1) := by decide +kernel
theorem dX2_readSentence_69 : decode cX2_readSentence 69 = .ok (.ldc 70, 2) := by decide +kernel
theorem dX2_readSentence_71 : decode cX2_readSentence 71 = .ok (.invokevirtual 53, 3) := by decide +kernel
theorem dX2_readSentence_74 : decode cX2_readSentence 74 = .ok (.aload_n 0, 1) := by decide +kernel
theorem dX2_readSentence_75 : decode cX2_readSentence 75 = .ok (.invokevirtual 57, 3) := by decide +kernel
theorem dX2_readSentence_78 : decode cX2_readSentence 78 = .ok (.istore 4, 2) := by decide +kernel
theorem dX2_readSentence_80 : decode cX2_readSentence 80 = .ok (.aload_n 1, 1) := by decide +kernel
theorem dX2_readSentence_81 : decode cX2_readSentence 81 = .ok (.getfield 72, 3) := by decide +kernel
theorem dX2_readSentence_84 : decode cX2_readSentence 84 = .ok (.iload 4, 2) := by decide +kernel
theorem dX2_readSentence_86 : decode cX2_readSentence 86 = .ok (.aload_n 0, 1) := by decide +kernel
theorem dX2_readSentence_87 : decode cX2_readSentence 87 = .ok (.bipush 99, 2) := by decide +kernel
theorem dX2_readSentence_89 : decode cX2_readSentence 89 = .ok (.invokevirtual 60, 3) := by decide +kernel
theorem dX2_readSentence_92 : decode cX2_readSentence 92 = .ok (.iastore, 1) := by decide +kernel
theorem dX2_readSentence_93 : decode cX2_readSentence 93 = .ok (.goto 41, 3) := by decide +kernel
theorem dX2_readSentence_96 : decode cX2_readSentence 96 = .ok (.iload_n 3, 1) := by decide +kernel
theorem dX2_readSentence_97 : decode cX2_readSentence 97 = .ok (.ifCond .lt 29, 3) := by decide +kernel
theorem dX2_readSentence_100 : decode cX2_readSentence 100 = .ok (.aload_n 0, 1) := by decide +kernel
theorem dX2_readSentence_101 : decode cX2_readSentence 101 = .ok (.iload_n 3, 1) := by decide +kernel
theorem dX2_readSentence_102 : decode cX2_readSentence 102 = .ok (.invokestatic 76, 3) := by decide +kernel
theorem dX2_readSentence_105 : decode cX2_readSentence 105 = .ok (.invokevirtual 53, 3) := by decide +kernel
theorem dX2_readSentence_108 : decode cX2_readSentence 108 = .ok (.aload_n 1, 1) := by decide +kernel
theorem dX2_readSentence_109 : decode cX2_readSentence 109 = .ok (.getfield 80, 3) := by decide +kernel
theorem dX2_readSentence_112 : decode cX2_readSentence 112 = .ok (.iload_n 3, 1) := by decide +kernel
theorem dX2_readSentence_113 : decode cX2_readSentence 113 = .ok (.aload_n 0, 1) := by decide +kernel
theorem dX2_readSentence_114 : decode cX2_readSentence 114 = .ok (.getstatic 83, 3) := by decide +kernel
theorem dX2_readSentence_117 : decode cX2_readSentence 117 = .ok (.iload_n 3, 1) := by decide +kernel
theorem dX2_readSentence_118 : decode cX2_readSentence 118 = .ok (.iaload, 1) := by decide +kernel
theorem dX2_readSentence_119 : decode cX2_readSentence 119 = .ok (.invokevirtual 60, 3) := by decide +kernel
theorem dX2_readSentence_122 : decode cX2_readSentence 122 = .ok (.iastore, 1) := by decide +kernel
theorem dX2_readSentence_123 : decode cX2_readSentence 123 = .ok (.goto 11, 3) := by decide +kernel
theorem dX2_readSentence_126 : decode cX2_readSentence 126 = .ok (.aload_n 0, 1) := by decide +kernel
theorem dX2_readSentence_127 : decode cX2_readSentence 127 = .ok (.aload_n 0, 1) := by decide +kernel
theorem dX2_readSentence_128 : decode cX2_readSentence 128 = .ok (.getfield 19, 3) := by decide +kernel
theorem dX2_readSentence_131 : decode cX2_readSentence 131 = .ok (.invokevirtual 86, 3) := by decide +kernel
theorem dX2_readSentence_134 : decode cX2_readSentence 134 = .ok (.return_, 1) := by decide +kernel
theorem dX2_readPerson_0 : decode cX2_readPerson 0 = .ok (.aload_n 1, 1) := by decide +kernel
theorem dX2_readPerson_1 : decode cX2_readPerson 1 = .ok (.getfield 90, 3) := by decide +kernel
theorem dX2_readPerson_4 : decode cX2_readPerson 4 = .ok (.bipush 8, 2) := by decide +kernel
theorem dX2_readPerson_6 : decode cX2_readPerson 6 = .ok (.if_icmp .lt 11, 3) := by decide +kernel
theorem dX2_readPerson_9 : decode cX2_readPerson 9 = .ok (.aload_n 0, 1) := by decide +kernel
theorem dX2_readPerson_10 : decode cX2_readPerson 10 = .ok (.aload_n 0, 1) := by decide +kernel
theorem dX2_readPerson_11 : decode cX2_readPerson 11 = .ok (.getfield 19, 3) := by decide +kernel
theorem dX2_readPerson_14 : decode cX2_readPerson 14 = .ok (.invokevirtual 86, 3) := by decide +kernel
theorem dX2_readPerson_17 : decode cX2_readPerson 17 = .ok (.aload_n 0, 1) := by decide +kernel
theorem dX2_readPerson_18 : decode cX2_readPerson 18 = .ok (.iload_n 2, 1) := by decide +kernel
theorem dX2_readPerson_19 : decode cX2_readPerson 19 = .ok (.invokestatic 93, 3) := by decide +kernel
theorem dX2_readPerson_22 : decode cX2_readPerson 22 = .ok (.invokevirtual 53, 3) := by decide +kernel
theorem dX2_readPerson_25 : decode cX2_readPerson 25 = .ok (.aload_n 0, 1) := by decide +kernel
theorem dX2_readPerson_26 : decode cX2_readPerson 26 = .ok (.ldc 96, 2) := by decide +kernel
theorem dX2_readPerson_28 : decode cX2_readPerson 28 = .ok (.invokevirtual 53, 3) := by decide +kernel
theorem dX2_readPerson_31 : decode cX2_readPerson 31 = .ok (.aload_n 0, 1) := by decide +kernel
theorem dX2_readPerson_32 : decode cX2_readPerson 32 = .ok (.bipush 31, 2) := by decide +kernel
theorem dX2_readPerson_34 : decode cX2_readPerson 34 = .ok (.invokevirtual 60, 3) := by decide +kernel
theorem dX2_readPerson_37 : decode cX2_readPerson 37 = .ok (.istore_n 3, 1) := by decide +kernel
theorem dX2_readPerson_38 : decode cX2_readPerson 38 = .ok (.bipush 50, 2) := by decide +kernel
theorem dX2_readPerson_40 : decode cX2_readPerson 40 = .ok (.istore 4, 2) := by decide +kernel
theorem dX2_readPerson_42 : decode cX2_readPerson 42 = .ok (.aload_n 0, 1) := by decide +kernel
theorem dX2_readPerson_43 : decode cX2_readPerson 43 = .ok (.ldc 98, 2) := by decide +kernel
theorem dX2_readPerson_45 : decode cX2_readPerson 45 = .ok (.invokevirtual 49, 3) := by decide +kernel
theorem dX2_readPerson_48 : decode cX2_readPerson 48 = .ok (.ifCond .eq 17, 3) := by decide +kernel
theorem dX2_readPerson_51 : decode cX2_readPerson 51 = .ok (.aload_n 0, 1) := by decide +kernel
theorem dX2_readPerson_52 : decode cX2_readPerson 52 = .ok (.ldc 98, 2) := by decide +kernel
theorem dX2_readPerson_54 : decode cX2_readPerson 54 = .ok (.invokevirtual 53, 3) := by decide +kernel
theorem dX2_readPerson_57 : decode cX2_readPerson 57 = .ok (.aload_n 0, 1) := by decide +kernel
theorem dX2_readPerson_58 : decode cX2_readPerson 58 = .ok (.bipush 99, 2) := by decide +kernel
theorem dX2_readPerson_60 : decode cX2_readPerson 60 = .ok (.invokevirtual 60, 3) := by decide +kernel
theorem dX2_readPerson_63 : decode cX2_readPerson 63 = .ok (.istore 4, 2) := by decide +kernel
theorem dX2_readPerson_65 : decode cX2_readPerson 65 = .ok (.iconst 0, 1) := by decide +kernel
theorem dX2_readPerson_66 : decode cX2_readPerson 66 = .ok (.istore 5, 2) := by decide +kernel
theorem dX2_readPerson_68 : decode cX2_readPerson 68 = .ok (.aload_n 0, 1) := by decide +kernel
theorem dX2_readPerson_69 : decode cX2_readPerson 69 = .ok (.ldc 100, 2) := by decide +kernel
theorem dX2_readPerson_71 : decode cX2_readPerson 71 = .ok (.invokevirtual 49, 3) := by decide +kernel
theorem dX2_readPerson_74 : decode cX2_readPerson 74 = .ok (.ifCond .eq 17, 3) := by decide +kernel
theorem dX2_readPerson_77 : decode cX2_readPerson 77 = .ok (.aload_n 0, 1) := by decide +kernel
theorem dX2_readPerson_78 : decode cX2_readPerson 78 = .ok (.ldc 100, 2) := by decide +kernel
theorem dX2_readPerson_80 : decode cX2_readPerson 80 = .ok (.invokevirtual 53, 3) := by decide +kernel
theorem dX2_readPerson_83 : decode cX2_readPerson 83 = .ok (.aload_n 0, 1) := by decide +kernel
theorem dX2_readPerson_84 : decode cX2_readPerson 84 = .ok (.bipush 9, 2) := by decide +kernel
theorem dX2_readPerson_86 : decode cX2_readPerson 86 = .ok (.invokevirtual 60, 3) := by decide +kernel
theorem dX2_readPerson_89 : decode cX2_readPerson 89 = .ok (.istore 5, 2) := by decide +kernel
theorem dX2_readPerson_91 : decode cX2_readPerson 91 = .ok (.aload_n 0, 1) := by decide +kernel
theorem dX2_readPerson_92 : decode cX2_readPerson 92 = .ok (.getfield 22, 3) := by decide +kernel
theorem dX2_readPerson_95 : decode cX2_readPerson 95 = .ok (.ifCond .ge 14, 3) := by decide +kernel
theorem dX2_readPerson_98 : decode cX2_readPerson 98 = .ok (.aload_n 1, 1) := by decide +kernel
theorem dX2_readPerson_99 : decode cX2_readPerson 99 = .ok (.iload_n 2, 1) := by decide +kernel
theorem dX2_readPerson_100 : decode cX2_readPerson 100 = .ok (.iload 5, 2) := by decide +kernel
theorem dX2_readPerson_102 : decode cX2_readPerson 102 = .ok (.iload 4, 2) := by decide +kernel
theorem dX2_readPerson_104 : decode cX2_readPerson 104 = .ok (.iload_n 3, 1) := by decide +kernel
theorem dX2_readPerson_105 : decode cX2_readPerson 105 = .ok (.invokevirtual 102, 3) := by decide +kernel
theorem dX2_readPerson_108 : decode cX2_readPerson 108 = .ok (.pop, 1) := by decide +kernel
theorem dX2_readPerson_109 : decode cX2_readPerson 109 = .ok (.return_, 1) := by decide +kernel
theorem dX2_readCell_0 : decode cX2_readCell 0 = .ok (.aload_n 0, 1) := by decide +kernel
theorem dX2_readCell_1 : decode cX2_readCell 1 = .ok (.bipush 31, 2) := by decide +kernel
theorem dX2_readCell_3 : decode cX2_readCell 3 = .ok (.invokevirtual 60, 3) := by decide +kernel
theorem dX2_readCell_6 : decode cX2_readCell 6 = .ok (.istore_n 1, 1) := by decide +kernel
theorem dX2_readCell_7 : decode cX2_readCell 7 = .ok (.aload_n 0, 1) := by decide +kernel
theorem dX2_readCell_8 : decode cX2_readCell 8 = .ok (.ldc 106, 2) := by decide +kernel
theorem dX2_readCell_10 : decode cX2_readCell 10 = .ok (.invokevirtual 53, 3) := by decide +kernel
theorem dX2_readCell_13 : decode cX2_readCell 13 = .ok (.iload_n 1, 1) := by decide +kernel
theorem dX2_readCell_14 : decode cX2_readCell 14 = .ok (.ireturn, 1) := by decide +kernel
theorem dX2_readNumber_0 : decode cX2_readNumber 0 = .ok (.aload_n 0, 1) := by decide +kernel
theorem dX2_readNumber_1 : decode cX2_readNumber 1 = .ok (.invokevirtual 25, 3) := by decide +kernel
theorem dX2_readNumber_4 : decode cX2_readNumber 4 = .ok (.aload_n 0, 1) := by decide +kernel
theorem dX2_readNumber_5 : decode cX2_readNumber 5 = .ok (.getfield 19, 3) := by decide +kernel
theorem dX2_readNumber_8 : decode cX2_readNumber 8 = .ok (.istore_n 2, 1) := by decide +kernel
theorem dX2_readNumber_9 : decode cX2_readNumber 9 = .ok (.iconst 0, 1) := by decide +kernel
theorem dX2_readNumber_10 : decode cX2_readNumber 10 = .ok (.istore_n 3, 1) := by decide +kernel
theorem dX2_readNumber_11 : decode cX2_readNumber 11 = .ok (.iconst 0, 1) := by decide +kernel
theorem dX2_readNumber_12 : decode cX2_readNumber 12 = .ok (.istore 4, 2) := by decide +kernel
theorem dX2_readNumber_14 : decode cX2_readNumber 14 = .ok (.iload 4, 2) := by decide +kernel
theorem dX2_readNumber_16 : decode cX2_readNumber 16 = .ok (.sipush 200, 3) := by decide +kernel
theorem dX2_readNumber_19 : decode cX2_readNumber 19 = .ok (.if_icmp .ge 54, 3) := by decide +kernel
theorem dX2_readNumber_22 : decode cX2_readNumber 22 = .ok (.aload_n 0, 1) := by decide +kernel
theorem dX2_readNumber_23 : decode cX2_readNumber 23 = .ok (.aload_n 0, 1) := by decide +kernel
theorem dX2_readNumber_24 : decode cX2_readNumber 24 = .ok (.getfield 19, 3) := by decide +kernel
theorem dX2_readNumber_27 : decode cX2_readNumber 27 = .ok (.invokevirtual 108, 3) := by decide +kernel
theorem dX2_readNumber_30 : decode cX2_readNumber 30 = .ok (.ifCond .eq 43, 3) := by decide +kernel
theorem dX2_readNumber_33 : decode cX2_readNumber 33 = .ok (.sipush 1000, 3) := by decide +kernel
theorem dX2_readNumber_36 : decode cX2_readNumber 36 = .ok (.iload_n 3, 1) := by decide +kernel
theorem dX2_readNumber_37 : decode cX2_readNumber 37 = .ok (.bipush 10, 2) := by decide +kernel
theorem dX2_readNumber_39 : decode cX2_readNumber 39 = .ok (.imul, 1) := by decide +kernel
theorem dX2_readNumber_40 : decode cX2_readNumber 40 = .ok (.aload_n 0, 1) := by decide +kernel
theorem dX2_readNumber_41 : decode cX2_readNumber 41 = .ok (.getfield 9, 3) := by decide +kernel
theorem dX2_readNumber_44 : decode cX2_readNumber 44 = .ok (.aload_n 0, 1) := by decide +kernel
theorem dX2_readNumber_45 : decode cX2_readNumber 45 = .ok (.getfield 19, 3) := by decide +kernel
theorem dX2_readNumber_48 : decode cX2_readNumber 48 = .ok (.baload, 1) := by decide +kernel
theorem dX2_readNumber_49 : decode cX2_readNumber 49 = .ok (.iadd, 1) := by decide +kernel
theorem dX2_readNumber_50 : decode cX2_readNumber 50 = .ok (.bipush 48, 2) := by decide +kernel
theorem dX2_readNumber_52 : decode cX2_readNumber 52 = .ok (.isub, 1) := by decide +kernel
theorem dX2_readNumber_53 : decode cX2_readNumber 53 = .ok (.invokestatic 112, 3) := by decide +kernel
theorem dX2_readNumber_56 : decode cX2_readNumber 56 = .ok (.istore_n 3, 1) := by decide +kernel
theorem dX2_readNumber_57 : decode cX2_readNumber 57 = .ok (.aload_n 0, 1) := by decide +kernel
theorem dX2_readNumber_58 : decode cX2_readNumber 58 = .ok (.dup, 1) := by decide +kernel
theorem dX2_readNumber_59 : decode cX2_readNumber 59 = .ok (.getfield 19, 3) := by decide +kernel
theorem dX2_readNumber_62 : decode cX2_readNumber 62 = .ok (.iconst 1, 1) := by decide +kernel
theorem dX2_readNumber_63 : decode cX2_readNumber 63 = .ok (.iadd, 1) := by decide +kernel
theorem dX2_readNumber_64 : decode cX2_readNumber 64 = .ok (.putfield 19, 3) := by decide +kernel
theorem dX2_readNumber_67 : decode cX2_readNumber 67 = .ok (.iinc 4 1, 3) := by decide +kernel
theorem dX2_readNumber_70 : decode cX2_readNumber 70 = .ok (.goto (-56), 3) := by decide +kernel
theorem dX2_readNumber_73 : decode cX2_readNumber 73 = .ok (.aload_n 0, 1) := by decide +kernel
theorem dX2_readNumber_74 : decode cX2_readNumber 74 = .ok (.getfield 19, 3) := by decide +kernel
theorem dX2_readNumber_77 : decode cX2_readNumber 77 = .ok (.iload_n 2, 1) := by decide +kernel
theorem dX2_readNumber_78 : decode cX2_readNumber 78 = .ok (.if_icmp .eq 18, 3) := by decide +kernel
theorem dX2_readNumber_81 : decode cX2_readNumber 81 = .ok (.aload_n 0, 1) := by decide +kernel
theorem dX2_readNumber_82 : decode cX2_readNumber 82 = .ok (.getfield 19, 3) := by decide +kernel
theorem dX2_readNumber_85 : decode cX2_readNumber 85 = .ok (.iload_n 2, 1) := by decide +kernel
theorem dX2_readNumber_86 : decode cX2_readNumber 86 = .ok (.isub, 1) := by decide +kernel
theorem dX2_readNumber_87 : decode cX2_readNumber 87 = .ok (.iconst 3, 1) := by decide +kernel
theorem dX2_readNumber_88 : decode cX2_readNumber 88 = .ok (.if_icmp .gt 8, 3) := by decide +kernel
theorem dX2_readNumber_91 : decode cX2_readNumber 91 = .ok (.iload_n 3, 1) := by decide +kernel
theorem dX2_readNumber_92 : decode cX2_readNumber 92 = .ok (.iload_n 1, 1) := by decide +kernel
theorem dX2_readNumber_93 : decode cX2_readNumber 93 = .ok (.if_icmp .le 8, 3) := by decide +kernel
theorem dX2_readNumber_96 : decode cX2_readNumber 96 = .ok (.aload_n 0, 1) := by decide +kernel
theorem dX2_readNumber_97 : decode cX2_readNumber 97 = .ok (.iload_n 2, 1) := by decide +kernel
theorem dX2_readNumber_98 : decode cX2_readNumber 98 = .ok (.invokevirtual 86, 3) := by decide +kernel
theorem dX2_readNumber_101 : decode cX2_readNumber 101 = .ok (.aload_n 0, 1) := by decide +kernel
theorem dX2_readNumber_102 : decode cX2_readNumber 102 = .ok (.getfield 22, 3) := by decide +kernel
theorem dX2_readNumber_105 : decode cX2_readNumber 105 = .ok (.ifCond .ge 7, 3) := by decide +kernel
theorem dX2_readNumber_108 : decode cX2_readNumber 108 = .ok (.iload_n 3, 1) := by decide +kernel
theorem dX2_readNumber_109 : decode cX2_readNumber 109 = .ok (.goto 4, 3) := by decide +kernel
theorem dX2_readNumber_112 : decode cX2_readNumber 112 = .ok (.iconst 0, 1) := by decide +kernel
theorem dX2_readNumber_113 : decode cX2_readNumber 113 = .ok (.ireturn, 1) := by decide +kernel
theorem dX2_readName_0 : decode cX2_readName 0 = .ok (.aload_n 0, 1) := by decide +kernel
theorem dX2_readName_1 : decode cX2_readName 1 = .ok (.aload_n 1, 1) := by decide +kernel
theorem dX2_readName_2 : decode cX2_readName 2 = .ok (.invokevirtual 49, 3) := by decide +kernel
theorem dX2_readName_5 : decode cX2_readName 5 = .ok (.ifCond .eq 19, 3) := by decide +kernel
theorem dX2_readName_8 : decode cX2_readName 8 = .ok (.aload_n 0, 1) := by decide +kernel
theorem dX2_readName_9 : decode cX2_readName 9 = .ok (.dup, 1) := by decide +kernel
theorem dX2_readName_10 : decode cX2_readName 10 = .ok (.getfield 19, 3) := by decide +kernel
theorem dX2_readName_13 : decode cX2_readName 13 = .ok (.aload_n 1, 1) := by decide +kernel
theorem dX2_readName_14 : decode cX2_readName 14 = .ok (.invokevirtual 118, 3) := by decide +kernel
theorem dX2_readName_17 : decode cX2_readName 17 = .ok (.iadd, 1) := by decide +kernel
theorem dX2_readName_18 : decode cX2_readName 18 = .ok (.putfield 19, 3) := by decide +kernel
theorem dX2_readName_21 : decode cX2_readName 21 = .ok (.goto 11, 3) := by decide +kernel
theorem dX2_readName_24 : decode cX2_readName 24 = .ok (.aload_n 0, 1) := by decide +kernel
theorem dX2_readName_25 : decode cX2_readName 25 = .ok (.aload_n 0, 1) := by decide +kernel
theorem dX2_readName_26 : decode cX2_readName 26 = .ok (.getfield 19, 3) := by decide +kernel
theorem dX2_readName_29 : decode cX2_readName 29 = .ok (.invokevirtual 86, 3) := by decide +kernel
theorem dX2_readName_32 : decode cX2_readName 32 = .ok (.return_, 1) := by decide +kernel
theorem dX2_readSign_0 : decode cX2_readSign 0 = .ok (.aload_n 0, 1) := by decide +kernel
theorem dX2_readSign_1 : decode cX2_readSign 1 = .ok (.invokevirtual 25, 3) := by decide +kernel
theorem dX2_readSign_4 : decode cX2_readSign 4 = .ok (.aload_n 0, 1) := by decide +kernel
theorem dX2_readSign_5 : decode cX2_readSign 5 = .ok (.getfield 19, 3) := by decide +kernel
theorem dX2_readSign_8 : decode cX2_readSign 8 = .ok (.aload_n 0, 1) := by decide +kernel
theorem dX2_readSign_9 : decode cX2_readSign 9 = .ok (.getfield 15, 3) := by decide +kernel
theorem dX2_readSign_12 : decode cX2_readSign 12 = .ok (.if_icmp .ge 29, 3) := by decide +kernel
theorem dX2_readSign_15 : decode cX2_readSign 15 = .ok (.aload_n 0, 1) := by decide +kernel
theorem dX2_readSign_16 : decode cX2_readSign 16 = .ok (.getfield 9, 3) := by decide +kernel
theorem dX2_readSign_19 : decode cX2_readSign 19 = .ok (.aload_n 0, 1) := by decide +kernel
theorem dX2_readSign_20 : decode cX2_readSign 20 = .ok (.getfield 19, 3) := by decide +kernel
theorem dX2_readSign_23 : decode cX2_readSign 23 = .ok (.baload, 1) := by decide +kernel
theorem dX2_readSign_24 : decode cX2_readSign 24 = .ok (.iload_n 1, 1) := by decide +kernel
theorem dX2_readSign_25 : decode cX2_readSign 25 = .ok (.if_icmp .ne 16, 3) := by decide +kernel
theorem dX2_readSign_28 : decode cX2_readSign 28 = .ok (.aload_n 0, 1) := by decide +kernel
theorem dX2_readSign_29 : decode cX2_readSign 29 = .ok (.dup, 1) := by decide +kernel
theorem dX2_readSign_30 : decode cX2_readSign 30 = .ok (.getfield 19, 3) := by decide +kernel
theorem dX2_readSign_33 : decode cX2_readSign 33 = .ok (.iconst 1, 1) := by decide +kernel
theorem dX2_readSign_34 : decode cX2_readSign 34 = .ok (.iadd, 1) := by decide +kernel
theorem dX2_readSign_35 : decode cX2_readSign 35 = .ok (.putfield 19, 3) := by decide +kernel
theorem dX2_readSign_38 : decode cX2_readSign 38 = .ok (.goto 11, 3) := by decide +kernel
theorem dX2_readSign_41 : decode cX2_readSign 41 = .ok (.aload_n 0, 1) := by decide +kernel
theorem dX2_readSign_42 : decode cX2_readSign 42 = .ok (.aload_n 0, 1) := by decide +kernel
theorem dX2_readSign_43 : decode cX2_readSign 43 = .ok (.getfield 19, 3) := by decide +kernel
theorem dX2_readSign_46 : decode cX2_readSign 46 = .ok (.invokevirtual 86, 3) := by decide +kernel
theorem dX2_readSign_49 : decode cX2_readSign 49 = .ok (.return_, 1) := by decide +kernel
theorem dX2_skipBlanks_0 : decode cX2_skipBlanks 0 = .ok (.iconst 0, 1) := by decide +kernel
theorem dX2_skipBlanks_1 : decode cX2_skipBlanks 1 = .ok (.istore_n 1, 1) := by decide +kernel
theorem dX2_skipBlanks_2 : decode cX2_skipBlanks 2 = .ok (.iload_n 1, 1) := by decide +kernel
theorem dX2_skipBlanks_3 : decode cX2_skipBlanks 3 = .ok (.sipush 200, 3) := by decide +kernel
theorem dX2_skipBlanks_6 : decode cX2_skipBlanks 6 = .ok (.if_icmp .ge 44, 3) := by decide +kernel
theorem dX2_skipBlanks_9 : decode cX2_skipBlanks 9 = .ok (.aload_n 0, 1) := by decide +kernel
theorem dX2_skipBlanks_10 : decode cX2_skipBlanks 10 = .ok (.getfield 19, 3) := by decide +kernel
theorem dX2_skipBlanks_13 : decode cX2_skipBlanks 13 = .ok (.aload_n 0, 1) := by decide +kernel
theorem dX2_skipBlanks_14 : decode cX2_skipBlanks 14 = .ok (.getfield 15, 3) := by decide +kernel
theorem dX2_skipBlanks_17 : decode cX2_skipBlanks 17 = .ok (.if_icmp .ge 33, 3) := by decide +kernel
theorem dX2_skipBlanks_20 : decode cX2_skipBlanks 20 = .ok (.aload_n 0, 1) := by decide +kernel
theorem dX2_skipBlanks_21 : decode cX2_skipBlanks 21 = .ok (.getfield 9, 3) := by decide +kernel
theorem dX2_skipBlanks_24 : decode cX2_skipBlanks 24 = .ok (.aload_n 0, 1) := by decide +kernel
theorem dX2_skipBlanks_25 : decode cX2_skipBlanks 25 = .ok (.getfield 19, 3) := by decide +kernel
theorem dX2_skipBlanks_28 : decode cX2_skipBlanks 28 = .ok (.baload, 1) := by decide +kernel
theorem dX2_skipBlanks_29 : decode cX2_skipBlanks 29 = .ok (.bipush 32, 2) := by decide +kernel
theorem dX2_skipBlanks_31 : decode cX2_skipBlanks 31 = .ok (.if_icmp .ne 19, 3) := by decide +kernel
theorem dX2_skipBlanks_34 : decode cX2_skipBlanks 34 = .ok (.aload_n 0, 1) := by decide +kernel
theorem dX2_skipBlanks_35 : decode cX2_skipBlanks 35 = .ok (.dup, 1) := by decide +kernel
theorem dX2_skipBlanks_36 : decode cX2_skipBlanks 36 = .ok (.getfield 19, 3) := by decide +kernel
theorem dX2_skipBlanks_39 : decode cX2_skipBlanks 39 = .ok (.iconst 1, 1) := by decide +kernel
theorem dX2_skipBlanks_40 : decode cX2_skipBlanks 40 = .ok (.iadd, 1) := by decide +kernel
theorem dX2_skipBlanks_41 : decode cX2_skipBlanks 41 = .ok (.putfield 19, 3) := by decide +kernel
theorem dX2_skipBlanks_44 : decode cX2_skipBlanks 44 = .ok (.iinc 1 1, 3) := by decide +kernel
theorem dX2_skipBlanks_47 : decode cX2_skipBlanks 47 = .ok (.goto (-45), 3) := by decide +kernel
theorem dX2_skipBlanks_50 : decode cX2_skipBlanks 50 = .ok (.return_, 1) := by decide +kernel
theorem dX2_refuse_0 : decode cX2_refuse 0 = .ok (.aload_n 0, 1) := by decide +kernel
theorem dX2_refuse_1 : decode cX2_refuse 1 = .ok (.getfield 22, 3) := by decide +kernel
theorem dX2_refuse_4 : decode cX2_refuse 4 = .ok (.ifCond .ge 8, 3) := by decide +kernel
theorem dX2_refuse_7 : decode cX2_refuse 7 = .ok (.aload_n 0, 1) := by decide +kernel
theorem dX2_refuse_8 : decode cX2_refuse 8 = .ok (.iload_n 1, 1) := by decide +kernel
theorem dX2_refuse_9 : decode cX2_refuse 9 = .ok (.putfield 22, 3) := by decide +kernel
theorem dX2_refuse_12 : decode cX2_refuse 12 = .ok (.return_, 1) := by decide +kernel
theorem dX2_isHere_0 : decode cX2_isHere 0 = .ok (.aload_n 0, 1) := by decide +kernel
theorem dX2_isHere_1 : decode cX2_isHere 1 = .ok (.invokevirtual 25, 3) := by decide +kernel
theorem dX2_isHere_4 : decode cX2_isHere 4 = .ok (.aload_n 0, 1) := by decide +kernel
theorem dX2_isHere_5 : decode cX2_isHere 5 = .ok (.getfield 19, 3) := by decide +kernel
theorem dX2_isHere_8 : decode cX2_isHere 8 = .ok (.aload_n 1, 1) := by decide +kernel
theorem dX2_isHere_9 : decode cX2_isHere 9 = .ok (.invokevirtual 118, 3) := by decide +kernel
theorem dX2_isHere_12 : decode cX2_isHere 12 = .ok (.iadd, 1) := by decide +kernel
theorem dX2_isHere_13 : decode cX2_isHere 13 = .ok (.istore_n 2, 1) := by decide +kernel
theorem dX2_isHere_14 : decode cX2_isHere 14 = .ok (.iload_n 2, 1) := by decide +kernel
theorem dX2_isHere_15 : decode cX2_isHere 15 = .ok (.aload_n 0, 1) := by decide +kernel
theorem dX2_isHere_16 : decode cX2_isHere 16 = .ok (.getfield 15, 3) := by decide +kernel
theorem dX2_isHere_19 : decode cX2_isHere 19 = .ok (.if_icmp .gt 11, 3) := by decide +kernel
theorem dX2_isHere_22 : decode cX2_isHere 22 = .ok (.aload_n 0, 1) := by decide +kernel
theorem dX2_isHere_23 : decode cX2_isHere 23 = .ok (.iload_n 2, 1) := by decide +kernel
theorem dX2_isHere_24 : decode cX2_isHere 24 = .ok (.invokevirtual 122, 3) := by decide +kernel
theorem dX2_isHere_27 : decode cX2_isHere 27 = .ok (.ifCond .eq 5, 3) := by decide +kernel
theorem dX2_isHere_30 : decode cX2_isHere 30 = .ok (.iconst 0, 1) := by decide +kernel
theorem dX2_isHere_31 : decode cX2_isHere 31 = .ok (.ireturn, 1) := by decide +kernel
theorem dX2_isHere_32 : decode cX2_isHere 32 = .ok (.iconst 0, 1) := by decide +kernel
theorem dX2_isHere_33 : decode cX2_isHere 33 = .ok (.istore_n 3, 1) := by decide +kernel
theorem dX2_isHere_34 : decode cX2_isHere 34 = .ok (.iload_n 3, 1) := by decide +kernel
theorem dX2_isHere_35 : decode cX2_isHere 35 = .ok (.aload_n 1, 1) := by decide +kernel
theorem dX2_isHere_36 : decode cX2_isHere 36 = .ok (.invokevirtual 118, 3) := by decide +kernel
theorem dX2_isHere_39 : decode cX2_isHere 39 = .ok (.if_icmp .ge 30, 3) := by decide +kernel
theorem dX2_isHere_42 : decode cX2_isHere 42 = .ok (.aload_n 0, 1) := by decide +kernel
theorem dX2_isHere_43 : decode cX2_isHere 43 = .ok (.getfield 9, 3) := by decide +kernel
theorem dX2_isHere_46 : decode cX2_isHere 46 = .ok (.aload_n 0, 1) := by decide +kernel
theorem dX2_isHere_47 : decode cX2_isHere 47 = .ok (.getfield 19, 3) := by decide +kernel
theorem dX2_isHere_50 : decode cX2_isHere 50 = .ok (.iload_n 3, 1) := by decide +kernel
theorem dX2_isHere_51 : decode cX2_isHere 51 = .ok (.iadd, 1) := by decide +kernel
theorem dX2_isHere_52 : decode cX2_isHere 52 = .ok (.baload, 1) := by decide +kernel
theorem dX2_isHere_53 : decode cX2_isHere 53 = .ok (.aload_n 1, 1) := by decide +kernel
theorem dX2_isHere_54 : decode cX2_isHere 54 = .ok (.iload_n 3, 1) := by decide +kernel
theorem dX2_isHere_55 : decode cX2_isHere 55 = .ok (.invokevirtual 125, 3) := by decide +kernel
theorem dX2_isHere_58 : decode cX2_isHere 58 = .ok (.if_icmp .eq 5, 3) := by decide +kernel
theorem dX2_isHere_61 : decode cX2_isHere 61 = .ok (.iconst 0, 1) := by decide +kernel
theorem dX2_isHere_62 : decode cX2_isHere 62 = .ok (.ireturn, 1) := by decide +kernel
theorem dX2_isHere_63 : decode cX2_isHere 63 = .ok (.iinc 3 1, 3) := by decide +kernel
theorem dX2_isHere_66 : decode cX2_isHere 66 = .ok (.goto (-32), 3) := by decide +kernel
theorem dX2_isHere_69 : decode cX2_isHere 69 = .ok (.iconst 1, 1) := by decide +kernel
theorem dX2_isHere_70 : decode cX2_isHere 70 = .ok (.ireturn, 1) := by decide +kernel
theorem dX2_kindHere_0 : decode cX2_kindHere 0 = .ok (.iconst 0, 1) := by decide +kernel
theorem dX2_kindHere_1 : decode cX2_kindHere 1 = .ok (.istore_n 1, 1) := by decide +kernel
theorem dX2_kindHere_2 : decode cX2_kindHere 2 = .ok (.iload_n 1, 1) := by decide +kernel
theorem dX2_kindHere_3 : decode cX2_kindHere 3 = .ok (.bipush 6, 2) := by decide +kernel
theorem dX2_kindHere_5 : decode cX2_kindHere 5 = .ok (.if_icmp .ge 22, 3) := by decide +kernel
theorem dX2_kindHere_8 : decode cX2_kindHere 8 = .ok (.aload_n 0, 1) := by decide +kernel
theorem dX2_kindHere_9 : decode cX2_kindHere 9 = .ok (.iload_n 1, 1) := by decide +kernel
theorem dX2_kindHere_10 : decode cX2_kindHere 10 = .ok (.invokestatic 93, 3) := by decide +kernel
theorem dX2_kindHere_13 : decode cX2_kindHere 13 = .ok (.invokevirtual 49, 3) := by decide +kernel
theorem dX2_kindHere_16 : decode cX2_kindHere 16 = .ok (.ifCond .eq 5, 3) := by decide +kernel
theorem dX2_kindHere_19 : decode cX2_kindHere 19 = .ok (.iload_n 1, 1) := by decide +kernel
theorem dX2_kindHere_20 : decode cX2_kindHere 20 = .ok (.ireturn, 1) := by decide +kernel
theorem dX2_kindHere_21 : decode cX2_kindHere 21 = .ok (.iinc 1 1, 3) := by decide +kernel
theorem dX2_kindHere_24 : decode cX2_kindHere 24 = .ok (.goto (-22), 3) := by decide +kernel
theorem dX2_kindHere_27 : decode cX2_kindHere 27 = .ok (.iconst (-1), 1) := by decide +kernel
theorem dX2_kindHere_28 : decode cX2_kindHere 28 = .ok (.ireturn, 1) := by decide +kernel
theorem dX2_lawHere_0 : decode cX2_lawHere 0 = .ok (.iconst 0, 1) := by decide +kernel
theorem dX2_lawHere_1 : decode cX2_lawHere 1 = .ok (.istore_n 1, 1) := by decide +kernel
theorem dX2_lawHere_2 : decode cX2_lawHere 2 = .ok (.iload_n 1, 1) := by decide +kernel
theorem dX2_lawHere_3 : decode cX2_lawHere 3 = .ok (.iconst 4, 1) := by decide +kernel
theorem dX2_lawHere_4 : decode cX2_lawHere 4 = .ok (.if_icmp .ge 22, 3) := by decide +kernel
theorem dX2_lawHere_7 : decode cX2_lawHere 7 = .ok (.aload_n 0, 1) := by decide +kernel
theorem dX2_lawHere_8 : decode cX2_lawHere 8 = .ok (.iload_n 1, 1) := by decide +kernel
theorem dX2_lawHere_9 : decode cX2_lawHere 9 = .ok (.invokestatic 76, 3) := by decide +kernel
theorem dX2_lawHere_12 : decode cX2_lawHere 12 = .ok (.invokevirtual 49, 3) := by decide +kernel
theorem dX2_lawHere_15 : decode cX2_lawHere 15 = .ok (.ifCond .eq 5, 3) := by decide +kernel
theorem dX2_lawHere_18 : decode cX2_lawHere 18 = .ok (.iload_n 1, 1) := by decide +kernel
theorem dX2_lawHere_19 : decode cX2_lawHere 19 = .ok (.ireturn, 1) := by decide +kernel
theorem dX2_lawHere_20 : decode cX2_lawHere 20 = .ok (.iinc 1 1, 3) := by decide +kernel
theorem dX2_lawHere_23 : decode cX2_lawHere 23 = .ok (.goto (-21), 3) := by decide +kernel
theorem dX2_lawHere_26 : decode cX2_lawHere 26 = .ok (.iconst (-1), 1) := by decide +kernel
theorem dX2_lawHere_27 : decode cX2_lawHere 27 = .ok (.ireturn, 1) := by decide +kernel
theorem dX2_isLetter_0 : decode cX2_isLetter 0 = .ok (.iload_n 1, 1) := by decide +kernel
theorem dX2_isLetter_1 : decode cX2_isLetter 1 = .ok (.aload_n 0, 1) := by decide +kernel
theorem dX2_isLetter_2 : decode cX2_isLetter 2 = .ok (.getfield 15, 3) := by decide +kernel
theorem dX2_isLetter_5 : decode cX2_isLetter 5 = .ok (.if_icmp .ge 29, 3) := by decide +kernel
theorem dX2_isLetter_8 : decode cX2_isLetter 8 = .ok (.aload_n 0, 1) := by decide +kernel
theorem dX2_isLetter_9 : decode cX2_isLetter 9 = .ok (.getfield 9, 3) := by decide +kernel
theorem dX2_isLetter_12 : decode cX2_isLetter 12 = .ok (.iload_n 1, 1) := by decide +kernel
theorem dX2_isLetter_13 : decode cX2_isLetter 13 = .ok (.baload, 1) := by decide +kernel
theorem dX2_isLetter_14 : decode cX2_isLetter 14 = .ok (.bipush 97, 2) := by decide +kernel
theorem dX2_isLetter_16 : decode cX2_isLetter 16 = .ok (.if_icmp .lt 18, 3) := by decide +kernel
theorem dX2_isLetter_19 : decode cX2_isLetter 19 = .ok (.aload_n 0, 1) := by decide +kernel
theorem dX2_isLetter_20 : decode cX2_isLetter 20 = .ok (.getfield 9, 3) := by decide +kernel
theorem dX2_isLetter_23 : decode cX2_isLetter 23 = .ok (.iload_n 1, 1) := by decide +kernel
theorem dX2_isLetter_24 : decode cX2_isLetter 24 = .ok (.baload, 1) := by decide +kernel
theorem dX2_isLetter_25 : decode cX2_isLetter 25 = .ok (.bipush 122, 2) := by decide +kernel
theorem dX2_isLetter_27 : decode cX2_isLetter 27 = .ok (.if_icmp .gt 7, 3) := by decide +kernel
theorem dX2_isLetter_30 : decode cX2_isLetter 30 = .ok (.iconst 1, 1) := by decide +kernel
theorem dX2_isLetter_31 : decode cX2_isLetter 31 = .ok (.goto 4, 3) := by decide +kernel
theorem dX2_isLetter_34 : decode cX2_isLetter 34 = .ok (.iconst 0, 1) := by decide +kernel
theorem dX2_isLetter_35 : decode cX2_isLetter 35 = .ok (.ireturn, 1) := by decide +kernel
theorem dX2_isDigit_0 : decode cX2_isDigit 0 = .ok (.iload_n 1, 1) := by decide +kernel
theorem dX2_isDigit_1 : decode cX2_isDigit 1 = .ok (.aload_n 0, 1) := by decide +kernel
theorem dX2_isDigit_2 : decode cX2_isDigit 2 = .ok (.getfield 15, 3) := by decide +kernel
theorem dX2_isDigit_5 : decode cX2_isDigit 5 = .ok (.if_icmp .ge 29, 3) := by decide +kernel
theorem dX2_isDigit_8 : decode cX2_isDigit 8 = .ok (.aload_n 0, 1) := by decide +kernel
theorem dX2_isDigit_9 : decode cX2_isDigit 9 = .ok (.getfield 9, 3) := by decide +kernel
theorem dX2_isDigit_12 : decode cX2_isDigit 12 = .ok (.iload_n 1, 1) := by decide +kernel
theorem dX2_isDigit_13 : decode cX2_isDigit 13 = .ok (.baload, 1) := by decide +kernel
theorem dX2_isDigit_14 : decode cX2_isDigit 14 = .ok (.bipush 48, 2) := by decide +kernel
theorem dX2_isDigit_16 : decode cX2_isDigit 16 = .ok (.if_icmp .lt 18, 3) := by decide +kernel
theorem dX2_isDigit_19 : decode cX2_isDigit 19 = .ok (.aload_n 0, 1) := by decide +kernel
theorem dX2_isDigit_20 : decode cX2_isDigit 20 = .ok (.getfield 9, 3) := by decide +kernel
theorem dX2_isDigit_23 : decode cX2_isDigit 23 = .ok (.iload_n 1, 1) := by decide +kernel
theorem dX2_isDigit_24 : decode cX2_isDigit 24 = .ok (.baload, 1) := by decide +kernel
theorem dX2_isDigit_25 : decode cX2_isDigit 25 = .ok (.bipush 57, 2) := by decide +kernel
theorem dX2_isDigit_27 : decode cX2_isDigit 27 = .ok (.if_icmp .gt 7, 3) := by decide +kernel
theorem dX2_isDigit_30 : decode cX2_isDigit 30 = .ok (.iconst 1, 1) := by decide +kernel
theorem dX2_isDigit_31 : decode cX2_isDigit 31 = .ok (.goto 4, 3) := by decide +kernel
theorem dX2_isDigit_34 : decode cX2_isDigit 34 = .ok (.iconst 0, 1) := by decide +kernel
theorem dX2_isDigit_35 : decode cX2_isDigit 35 = .ok (.ireturn, 1) := by decide +kernel
theorem dX2_kindName_0 : decode cX2_kindName 0 = .ok (.iload_n 0, 1) := by decide +kernel
theorem dX2_kindName_1 : decode cX2_kindName 1 = .ok (.tableswitch 50 1 5 #[35, 38, 41, 44, 47], 35) := by decide +kernel
theorem dX2_kindName_36 : decode cX2_kindName 36 = .ok (.ldc 129, 2) := by decide +kernel
theorem dX2_kindName_38 : decode cX2_kindName 38 = .ok (.areturn, 1) := by decide +kernel
theorem dX2_kindName_39 : decode cX2_kindName 39 = .ok (.ldc 131, 2) := by decide +kernel
theorem dX2_kindName_41 : decode cX2_kindName 41 = .ok (.areturn, 1) := by decide +kernel
theorem dX2_kindName_42 : decode cX2_kindName 42 = .ok (.ldc 133, 2) := by decide +kernel
theorem dX2_kindName_44 : decode cX2_kindName 44 = .ok (.areturn, 1) := by decide +kernel
theorem dX2_kindName_45 : decode cX2_kindName 45 = .ok (.ldc 135, 2) := by decide +kernel
theorem dX2_kindName_47 : decode cX2_kindName 47 = .ok (.areturn, 1) := by decide +kernel
theorem dX2_kindName_48 : decode cX2_kindName 48 = .ok (.ldc 137, 2) := by decide +kernel
theorem dX2_kindName_50 : decode cX2_kindName 50 = .ok (.areturn, 1) := by decide +kernel
theorem dX2_kindName_51 : decode cX2_kindName 51 = .ok (.ldc 139, 2) := by decide +kernel
theorem dX2_kindName_53 : decode cX2_kindName 53 = .ok (.areturn, 1) := by decide +kernel
theorem dX2_lawName_0 : decode cX2_lawName 0 = .ok (.iload_n 0, 1) := by decide +kernel
theorem dX2_lawName_1 : decode cX2_lawName 1 = .ok (.tableswitch 36 1 3 #[27, 30, 33], 27) := by decide +kernel
theorem dX2_lawName_28 : decode cX2_lawName 28 = .ok (.ldc 141, 2) := by decide +kernel
theorem dX2_lawName_30 : decode cX2_lawName 30 = .ok (.areturn, 1) := by decide +kernel
theorem dX2_lawName_31 : decode cX2_lawName 31 = .ok (.ldc 143, 2) := by decide +kernel
theorem dX2_lawName_33 : decode cX2_lawName 33 = .ok (.areturn, 1) := by decide +kernel
theorem dX2_lawName_34 : decode cX2_lawName 34 = .ok (.ldc 145, 2) := by decide +kernel
theorem dX2_lawName_36 : decode cX2_lawName 36 = .ok (.areturn, 1) := by decide +kernel
theorem dX2_lawName_37 : decode cX2_lawName 37 = .ok (.ldc 147, 2) := by decide +kernel
theorem dX2_lawName_39 : decode cX2_lawName 39 = .ok (.areturn, 1) := by decide +kernel
theorem dX3_init_0 : decode cX3_init 0 = .ok (.aload_n 0, 1) := by decide +kernel
theorem dX3_init_1 : decode cX3_init 1 = .ok (.invokespecial 1, 3) := by decide +kernel
theorem dX3_init_4 : decode cX3_init 4 = .ok (.aload_n 0, 1) := by decide +kernel
theorem dX3_init_5 : decode cX3_init 5 = .ok (.new 7, 3) := by decide +kernel
theorem dX3_init_8 : decode cX3_init 8 = .ok (.dup, 1) := by decide +kernel
theorem dX3_init_9 : decode cX3_init 9 = .ok (.invokespecial 9, 3) := by decide +kernel
theorem dX3_init_12 : decode cX3_init 12 = .ok (.putfield 10, 3) := by decide +kernel
theorem dX3_init_15 : decode cX3_init 15 = .ok (.aload_n 0, 1) := by decide +kernel
theorem dX3_init_16 : decode cX3_init 16 = .ok (.new 7, 3) := by decide +kernel
theorem dX3_init_19 : decode cX3_init 19 = .ok (.dup, 1) := by decide +kernel
theorem dX3_init_20 : decode cX3_init 20 = .ok (.invokespecial 9, 3) := by decide +kernel
theorem dX3_init_23 : decode cX3_init 23 = .ok (.putfield 16, 3) := by decide +kernel
theorem dX3_init_26 : decode cX3_init 26 = .ok (.aload_n 0, 1) := by decide +kernel
theorem dX3_init_27 : decode cX3_init 27 = .ok (.new 7, 3) := by decide +kernel
theorem dX3_init_30 : decode cX3_init 30 = .ok (.dup, 1) := by decide +kernel
theorem dX3_init_31 : decode cX3_init 31 = .ok (.invokespecial 9, 3) := by decide +kernel
theorem dX3_init_34 : decode cX3_init 34 = .ok (.putfield 19, 3) := by decide +kernel
theorem dX3_init_37 : decode cX3_init 37 = .ok (.aload_n 0, 1) := by decide +kernel
theorem dX3_init_38 : decode cX3_init 38 = .ok (.new 22, 3) := by decide +kernel
theorem dX3_init_41 : decode cX3_init 41 = .ok (.dup, 1) := by decide +kernel
theorem dX3_init_42 : decode cX3_init 42 = .ok (.invokespecial 24, 3) := by decide +kernel
theorem dX3_init_45 : decode cX3_init 45 = .ok (.putfield 25, 3) := by decide +kernel
theorem dX3_init_48 : decode cX3_init 48 = .ok (.aload_n 0, 1) := by decide +kernel
theorem dX3_init_49 : decode cX3_init 49 = .ok (.bipush 10, 2) := by decide +kernel
theorem dX3_init_51 : decode cX3_init 51 = .ok (.iconst 3, 1) := by decide +kernel
theorem dX3_init_52 : decode cX3_init 52 = .ok (.multianewarray 29 2, 4) := by decide +kernel
theorem dX3_init_56 : decode cX3_init 56 = .ok (.putfield 31, 3) := by decide +kernel
theorem dX3_init_59 : decode cX3_init 59 = .ok (.aload_n 0, 1) := by decide +kernel
theorem dX3_init_60 : decode cX3_init 60 = .ok (.iconst 4, 1) := by decide +kernel
theorem dX3_init_61 : decode cX3_init 61 = .ok (.newarray .int, 2) := by decide +kernel
theorem dX3_init_63 : decode cX3_init 63 = .ok (.putfield 34, 3) := by decide +kernel
theorem dX3_init_66 : decode cX3_init 66 = .ok (.aload_n 0, 1) := by decide +kernel
theorem dX3_init_67 : decode cX3_init 67 = .ok (.iconst 4, 1) := by decide +kernel
theorem dX3_init_68 : decode cX3_init 68 = .ok (.newarray .int, 2) := by decide +kernel
theorem dX3_init_70 : decode cX3_init 70 = .ok (.putfield 38, 3) := by decide +kernel
theorem dX3_init_73 : decode cX3_init 73 = .ok (.aload_n 0, 1) := by decide +kernel
theorem dX3_init_74 : decode cX3_init 74 = .ok (.iconst 4, 1) := by decide +kernel
theorem dX3_init_75 : decode cX3_init 75 = .ok (.bipush 40, 2) := by decide +kernel
theorem dX3_init_77 : decode cX3_init 77 = .ok (.multianewarray 41 2, 4) := by decide +kernel
theorem dX3_init_81 : decode cX3_init 81 = .ok (.putfield 43, 3) := by decide +kernel
theorem dX3_init_84 : decode cX3_init 84 = .ok (.aload_n 0, 1) := by decide +kernel
theorem dX3_init_85 : decode cX3_init 85 = .ok (.iconst 4, 1) := by decide +kernel
theorem dX3_init_86 : decode cX3_init 86 = .ok (.newarray .int, 2) := by decide +kernel
theorem dX3_init_88 : decode cX3_init 88 = .ok (.putfield 46, 3) := by decide +kernel
theorem dX3_init_91 : decode cX3_init 91 = .ok (.aload_n 0, 1) := by decide +kernel
theorem dX3_init_92 : decode cX3_init 92 = .ok (.iconst 4, 1) := by decide +kernel
theorem dX3_init_93 : decode cX3_init 93 = .ok (.newarray .int, 2) := by decide +kernel
theorem dX3_init_95 : decode cX3_init 95 = .ok (.putfield 49, 3) := by decide +kernel
theorem dX3_init_98 : decode cX3_init 98 = .ok (.aload_n 0, 1) := by decide +kernel
theorem dX3_init_99 : decode cX3_init 99 = .ok (.iconst 4, 1) := by decide +kernel
theorem dX3_init_100 : decode cX3_init 100 = .ok (.newarray .int, 2) := by decide +kernel
theorem dX3_init_102 : decode cX3_init 102 = .ok (.putfield 52, 3) := by decide +kernel
theorem dX3_init_105 : decode cX3_init 105 = .ok (.aload_n 0, 1) := by decide +kernel
theorem dX3_init_106 : decode cX3_init 106 = .ok (.new 55, 3) := by decide +kernel
theorem dX3_init_109 : decode cX3_init 109 = .ok (.dup, 1) := by decide +kernel
theorem dX3_init_110 : decode cX3_init 110 = .ok (.invokespecial 57, 3) := by decide +kernel
theorem dX3_init_113 : decode cX3_init 113 = .ok (.putfield 58, 3) := by decide +kernel
theorem dX3_init_116 : decode cX3_init 116 = .ok (.iconst 0, 1) := by decide +kernel
theorem dX3_init_117 : decode cX3_init 117 = .ok (.istore_n 1, 1) := by decide +kernel
theorem dX3_init_118 : decode cX3_init 118 = .ok (.iload_n 1, 1) := by decide +kernel
theorem dX3_init_119 : decode cX3_init 119 = .ok (.iconst 4, 1) := by decide +kernel
theorem dX3_init_120 : decode cX3_init 120 = .ok (.if_icmp .ge 16, 3) := by decide +kernel
theorem dX3_init_123 : decode cX3_init 123 = .ok (.aload_n 0, 1) := by decide +kernel
theorem dX3_init_124 : decode cX3_init 124 = .ok (.getfield 34, 3) := by decide +kernel
theorem dX3_init_127 : decode cX3_init 127 = .ok (.iload_n 1, 1) := by decide +kernel
theorem dX3_init_128 : decode cX3_init 128 = .ok (.iconst (-1), 1) := by decide +kernel
theorem dX3_init_129 : decode cX3_init 129 = .ok (.iastore, 1) := by decide +kernel
theorem dX3_init_130 : decode cX3_init 130 = .ok (.iinc 1 1, 3) := by decide +kernel
theorem dX3_init_133 : decode cX3_init 133 = .ok (.goto (-15), 3) := by decide +kernel
theorem dX3_init_136 : decode cX3_init 136 = .ok (.iconst 0, 1) := by decide +kernel
theorem dX3_init_137 : decode cX3_init 137 = .ok (.istore_n 1, 1) := by decide +kernel
theorem dX3_init_138 : decode cX3_init 138 = .ok (.iload_n 1, 1) := by decide +kernel
theorem dX3_init_139 : decode cX3_init 139 = .ok (.iconst 4, 1) := by decide +kernel
theorem dX3_init_140 : decode cX3_init 140 = .ok (.if_icmp .ge 16, 3) := by decide +kernel
theorem dX3_init_143 : decode cX3_init 143 = .ok (.aload_n 0, 1) := by decide +kernel
theorem dX3_init_144 : decode cX3_init 144 = .ok (.getfield 46, 3) := by decide +kernel
theorem dX3_init_147 : decode cX3_init 147 = .ok (.iload_n 1, 1) := by decide +kernel
theorem dX3_init_148 : decode cX3_init 148 = .ok (.iconst 2, 1) := by decide +kernel
theorem dX3_init_149 : decode cX3_init 149 = .ok (.iastore, 1) := by decide +kernel
theorem dX3_init_150 : decode cX3_init 150 = .ok (.iinc 1 1, 3) := by decide +kernel
theorem dX3_init_153 : decode cX3_init 153 = .ok (.goto (-15), 3) := by decide +kernel
theorem dX3_init_156 : decode cX3_init 156 = .ok (.return_, 1) := by decide +kernel
theorem dX3_feed_0 : decode cX3_feed 0 = .ok (.iload_n 3, 1) := by decide +kernel
theorem dX3_feed_1 : decode cX3_feed 1 = .ok (.iconst 1, 1) := by decide +kernel
theorem dX3_feed_2 : decode cX3_feed 2 = .ok (.if_icmp .lt 9, 3) := by decide +kernel
theorem dX3_feed_5 : decode cX3_feed 5 = .ok (.iload_n 3, 1) := by decide +kernel
theorem dX3_feed_6 : decode cX3_feed 6 = .ok (.bipush 8, 2) := by decide +kernel
theorem dX3_feed_8 : decode cX3_feed 8 = .ok (.if_icmp .le 5, 3) := by decide +kernel
theorem dX3_feed_11 : decode cX3_feed 11 = .ok (.iconst (-1), 1) := by decide +kernel
theorem dX3_feed_12 : decode cX3_feed 12 = .ok (.ireturn, 1) := by decide +kernel
theorem dX3_feed_13 : decode cX3_feed 13 = .ok (.aload_n 0, 1) := by decide +kernel
theorem dX3_feed_14 : decode cX3_feed 14 = .ok (.getfield 25, 3) := by decide +kernel
theorem dX3_feed_17 : decode cX3_feed 17 = .ok (.lload_n 1, 1) := by decide +kernel
theorem dX3_feed_18 : decode cX3_feed 18 = .ok (.iload_n 3, 1) := by decide +kernel
theorem dX3_feed_19 : decode cX3_feed 19 = .ok (.invokevirtual 62, 3) := by decide +kernel
theorem dX3_feed_22 : decode cX3_feed 22 = .ok (.ifCond .eq 13, 3) := by decide +kernel
theorem dX3_feed_25 : decode cX3_feed 25 = .ok (.aload_n 0, 1) := by decide +kernel
theorem dX3_feed_26 : decode cX3_feed 26 = .ok (.getfield 25, 3) := by decide +kernel
theorem dX3_feed_29 : decode cX3_feed 29 = .ok (.getfield 66, 3) := by decide +kernel
theorem dX3_feed_32 : decode cX3_feed 32 = .ok (.goto 5, 3) := by decide +kernel
theorem dX3_feed_35 : decode cX3_feed 35 = .ok (.bipush (-2), 2) := by decide +kernel
theorem dX3_feed_37 : decode cX3_feed 37 = .ok (.ireturn, 1) := by decide +kernel
theorem dX3_moor_0 : decode cX3_moor 0 = .ok (.aload_n 0, 1) := by decide +kernel
theorem dX3_moor_1 : decode cX3_moor 1 = .ok (.getfield 16, 3) := by decide +kernel
theorem dX3_moor_4 : decode cX3_moor 4 = .ok (.invokevirtual 70, 3) := by decide +kernel
theorem dX3_moor_7 : decode cX3_moor 7 = .ok (.aload_n 0, 1) := by decide +kernel
theorem dX3_moor_8 : decode cX3_moor 8 = .ok (.getfield 25, 3) := by decide +kernel
theorem dX3_moor_11 : decode cX3_moor 11 = .ok (.aload_n 0, 1) := by decide +kernel
theorem dX3_moor_12 : decode cX3_moor 12 = .ok (.getfield 16, 3) := by decide +kernel
theorem dX3_moor_15 : decode cX3_moor 15 = .ok (.invokevirtual 73, 3) := by decide +kernel
theorem dX3_moor_18 : decode cX3_moor 18 = .ok (.istore_n 1, 1) := by decide +kernel
theorem dX3_moor_19 : decode cX3_moor 19 = .ok (.aload_n 0, 1) := by decide +kernel
theorem dX3_moor_20 : decode cX3_moor 20 = .ok (.getfield 25, 3) := by decide +kernel
theorem dX3_moor_23 : decode cX3_moor 23 = .ok (.iconst 0, 1) := by decide +kernel
theorem dX3_moor_24 : decode cX3_moor 24 = .ok (.putfield 66, 3) := by decide +kernel
theorem dX3_moor_27 : decode cX3_moor 27 = .ok (.iload_n 1, 1) := by decide +kernel
theorem dX3_moor_28 : decode cX3_moor 28 = .ok (.ifCond .lt 8, 3) := by decide +kernel
theorem dX3_moor_31 : decode cX3_moor 31 = .ok (.bipush (-100), 2) := by decide +kernel
theorem dX3_moor_33 : decode cX3_moor 33 = .ok (.iload_n 1, 1) := by decide +kernel
theorem dX3_moor_34 : decode cX3_moor 34 = .ok (.isub, 1) := by decide +kernel
theorem dX3_moor_35 : decode cX3_moor 35 = .ok (.ireturn, 1) := by decide +kernel
theorem dX3_moor_36 : decode cX3_moor 36 = .ok (.aload_n 0, 1) := by decide +kernel
theorem dX3_moor_37 : decode cX3_moor 37 = .ok (.getfield 16, 3) := by decide +kernel
theorem dX3_moor_40 : decode cX3_moor 40 = .ok (.aload_n 0, 1) := by decide +kernel
theorem dX3_moor_41 : decode cX3_moor 41 = .ok (.getfield 10, 3) := by decide +kernel
theorem dX3_moor_44 : decode cX3_moor 44 = .ok (.getfield 77, 3) := by decide +kernel
theorem dX3_moor_47 : decode cX3_moor 47 = .ok (.putfield 77, 3) := by decide +kernel
theorem dX3_moor_50 : decode cX3_moor 50 = .ok (.aload_n 0, 1) := by decide +kernel
theorem dX3_moor_51 : decode cX3_moor 51 = .ok (.getfield 10, 3) := by decide +kernel
theorem dX3_moor_54 : decode cX3_moor 54 = .ok (.aload_n 0, 1) := by decide +kernel
theorem dX3_moor_55 : decode cX3_moor 55 = .ok (.getfield 16, 3) := by decide +kernel
theorem dX3_moor_58 : decode cX3_moor 58 = .ok (.invokevirtual 80, 3) := by decide +kernel
theorem dX3_moor_61 : decode cX3_moor 61 = .ok (.aload_n 0, 1) := by decide +kernel
theorem dX3_moor_62 : decode cX3_moor 62 = .ok (.iconst 0, 1) := by decide +kernel
theorem dX3_moor_63 : decode cX3_moor 63 = .ok (.putfield 84, 3) := by decide +kernel
theorem dX3_moor_66 : decode cX3_moor 66 = .ok (.aload_n 0, 1) := by decide +kernel
theorem dX3_moor_67 : decode cX3_moor 67 = .ok (.getfield 10, 3) := by decide +kernel
theorem dX3_moor_70 : decode cX3_moor 70 = .ok (.getfield 87, 3) := by decide +kernel
theorem dX3_moor_73 : decode cX3_moor 73 = .ok (.ireturn, 1) := by decide +kernel
theorem dX3_set_0 : decode cX3_set 0 = .ok (.iload_n 1, 1) := by decide +kernel
theorem dX3_set_1 : decode cX3_set 1 = .ok (.invokestatic 90, 3) := by decide +kernel
theorem dX3_set_4 : decode cX3_set 4 = .ok (.ifCond .eq 15, 3) := by decide +kernel
theorem dX3_set_7 : decode cX3_set 7 = .ok (.iload_n 2, 1) := by decide +kernel
theorem dX3_set_8 : decode cX3_set 8 = .ok (.getstatic 94, 3) := by decide +kernel
theorem dX3_set_11 : decode cX3_set 11 = .ok (.iload_n 1, 1) := by decide +kernel
theorem dX3_set_12 : decode cX3_set 12 = .ok (.iaload, 1) := by decide +kernel
theorem dX3_set_13 : decode cX3_set 13 = .ok (.invokestatic 97, 3) := by decide +kernel
theorem dX3_set_16 : decode cX3_set 16 = .ok (.ifCond .ne 5, 3) := by decide +kernel
theorem dX3_set_19 : decode cX3_set 19 = .ok (.iconst (-1), 1) := by decide +kernel
theorem dX3_set_20 : decode cX3_set 20 = .ok (.ireturn, 1) := by decide +kernel
theorem dX3_set_21 : decode cX3_set 21 = .ok (.aload_n 0, 1) := by decide +kernel
theorem dX3_set_22 : decode cX3_set 22 = .ok (.getfield 10, 3) := by decide +kernel
theorem dX3_set_25 : decode cX3_set 25 = .ok (.getfield 101, 3) := by decide +kernel
theorem dX3_set_28 : decode cX3_set 28 = .ok (.iload_n 1, 1) := by decide +kernel
theorem dX3_set_29 : decode cX3_set 29 = .ok (.iaload, 1) := by decide +kernel
theorem dX3_set_30 : decode cX3_set 30 = .ok (.istore_n 3, 1) := by decide +kernel
theorem dX3_set_31 : decode cX3_set 31 = .ok (.aload_n 0, 1) := by decide +kernel
theorem dX3_set_32 : decode cX3_set 32 = .ok (.getfield 10, 3) := by decide +kernel
theorem dX3_set_35 : decode cX3_set 35 = .ok (.getfield 101, 3) := by decide +kernel
theorem dX3_set_38 : decode cX3_set 38 = .ok (.iload_n 1, 1) := by decide +kernel
theorem dX3_set_39 : decode cX3_set 39 = .ok (.iload_n 2, 1) := by decide +kernel
theorem dX3_set_40 : decode cX3_set 40 = .ok (.iastore, 1) := by decide +kernel
theorem dX3_set_41 : decode cX3_set 41 = .ok (.iload_n 3, 1) := by decide +kernel
theorem dX3_set_42 : decode cX3_set 42 = .ok (.ireturn, 1) := by decide +kernel
theorem dX3_lawOf_0 : decode cX3_lawOf 0 = .ok (.iload_n 1, 1) := by decide +kernel
theorem dX3_lawOf_1 : decode cX3_lawOf 1 = .ok (.invokestatic 90, 3) := by decide +kernel
theorem dX3_lawOf_4 : decode cX3_lawOf 4 = .ok (.ifCond .eq 15, 3) := by decide +kernel
theorem dX3_lawOf_7 : decode cX3_lawOf 7 = .ok (.aload_n 0, 1) := by decide +kernel
theorem dX3_lawOf_8 : decode cX3_lawOf 8 = .ok (.getfield 10, 3) := by decide +kernel
theorem dX3_lawOf_11 : decode cX3_lawOf 11 = .ok (.getfield 101, 3) := by decide +kernel
theorem dX3_lawOf_14 : decode cX3_lawOf 14 = .ok (.iload_n 1, 1) := by decide +kernel
theorem dX3_lawOf_15 : decode cX3_lawOf 15 = .ok (.iaload, 1) := by decide +kernel
theorem dX3_lawOf_16 : decode cX3_lawOf 16 = .ok (.goto 4, 3) := by decide +kernel
theorem dX3_lawOf_19 : decode cX3_lawOf 19 = .ok (.iconst (-1), 1) := by decide +kernel
theorem dX3_lawOf_20 : decode cX3_lawOf 20 = .ok (.ireturn, 1) := by decide +kernel
theorem dX3_person_0 : decode cX3_person 0 = .ok (.iload_n 1, 1) := by decide +kernel
theorem dX3_person_1 : decode cX3_person 1 = .ok (.invokestatic 104, 3) := by decide +kernel
theorem dX3_person_4 : decode cX3_person 4 = .ok (.ifCond .eq 29, 3) := by decide +kernel
theorem dX3_person_7 : decode cX3_person 7 = .ok (.iload_n 2, 1) := by decide +kernel
theorem dX3_person_8 : decode cX3_person 8 = .ok (.bipush 9, 2) := by decide +kernel
theorem dX3_person_10 : decode cX3_person 10 = .ok (.invokestatic 97, 3) := by decide +kernel
theorem dX3_person_13 : decode cX3_person 13 = .ok (.ifCond .eq 20, 3) := by decide +kernel
theorem dX3_person_16 : decode cX3_person 16 = .ok (.iload_n 3, 1) := by decide +kernel
theorem dX3_person_17 : decode cX3_person 17 = .ok (.bipush 99, 2) := by decide +kernel
theorem dX3_person_19 : decode cX3_person 19 = .ok (.invokestatic 97, 3) := by decide +kernel
theorem dX3_person_22 : decode cX3_person 22 = .ok (.ifCond .eq 11, 3) := by decide +kernel
theorem dX3_person_25 : decode cX3_person 25 = .ok (.iload 4, 2) := by decide +kernel
theorem dX3_person_27 : decode cX3_person 27 = .ok (.invokestatic 107, 3) := by decide +kernel
theorem dX3_person_30 : decode cX3_person 30 = .ok (.ifCond .ne 5, 3) := by decide +kernel
theorem dX3_person_33 : decode cX3_person 33 = .ok (.iconst (-1), 1) := by decide +kernel
theorem dX3_person_34 : decode cX3_person 34 = .ok (.ireturn, 1) := by decide +kernel
theorem dX3_person_35 : decode cX3_person 35 = .ok (.aload_n 0, 1) := by decide +kernel
theorem dX3_person_36 : decode cX3_person 36 = .ok (.getfield 10, 3) := by decide +kernel
theorem dX3_person_39 : decode cX3_person 39 = .ok (.getfield 87, 3) := by decide +kernel
theorem dX3_person_42 : decode cX3_person 42 = .ok (.bipush 8, 2) := by decide +kernel
theorem dX3_person_44 : decode cX3_person 44 = .ok (.if_icmp .lt 6, 3) := by decide +kernel
theorem dX3_person_47 : decode cX3_person 47 = .ok (.bipush (-2), 2) := by decide +kernel
theorem dX3_person_49 : decode cX3_person 49 = .ok (.ireturn, 1) := by decide +kernel
theorem dX3_person_50 : decode cX3_person 50 = .ok (.aload_n 0, 1) := by decide +kernel
theorem dX3_person_51 : decode cX3_person 51 = .ok (.getfield 10, 3) := by decide +kernel
theorem dX3_person_54 : decode cX3_person 54 = .ok (.iload_n 1, 1) := by decide +kernel
theorem dX3_person_55 : decode cX3_person 55 = .ok (.iload_n 2, 1) := by decide +kernel
theorem dX3_person_56 : decode cX3_person 56 = .ok (.iload_n 3, 1) := by decide +kernel
theorem dX3_person_57 : decode cX3_person 57 = .ok (.iload 4, 2) := by decide +kernel
theorem dX3_person_59 : decode cX3_person 59 = .ok (.invokevirtual 110, 3) := by decide +kernel
theorem dX3_person_62 : decode cX3_person 62 = .ok (.ireturn, 1) := by decide +kernel
theorem dX3_of_0 : decode cX3_of 0 = .ok (.aload_n 0, 1) := by decide +kernel
theorem dX3_of_1 : decode cX3_of 1 = .ok (.iload_n 1, 1) := by decide +kernel
theorem dX3_of_2 : decode cX3_of 2 = .ok (.invokevirtual 114, 3) := by decide +kernel
theorem dX3_of_5 : decode cX3_of 5 = .ok (.ifCond .ne 5, 3) := by decide +kernel
theorem dX3_of_8 : decode cX3_of 8 = .ok (.iconst (-1), 1) := by decide +kernel
theorem dX3_of_9 : decode cX3_of 9 = .ok (.ireturn, 1) := by decide +kernel
theorem dX3_of_10 : decode cX3_of 10 = .ok (.iload_n 2, 1) := by decide +kernel
theorem dX3_of_11 : decode cX3_of 11 = .ok (.tableswitch 129 0 7 #[45, 55, 65, 75, 85, 94, 103, 120], 45) := by decide +kernel
theorem dX3_of_56 : decode cX3_of 56 = .ok (.aload_n 0, 1) := by decide +kernel
theorem dX3_of_57 : decode cX3_of 57 = .ok (.getfield 10, 3) := by decide +kernel
theorem dX3_of_60 : decode cX3_of 60 = .ok (.getfield 117, 3) := by decide +kernel
theorem dX3_of_63 : decode cX3_of 63 = .ok (.iload_n 1, 1) := by decide +kernel
theorem dX3_of_64 : decode cX3_of 64 = .ok (.iaload, 1) := by decide +kernel
theorem dX3_of_65 : decode cX3_of 65 = .ok (.ireturn, 1) := by decide +kernel
theorem dX3_of_66 : decode cX3_of 66 = .ok (.aload_n 0, 1) := by decide +kernel
theorem dX3_of_67 : decode cX3_of 67 = .ok (.getfield 10, 3) := by decide +kernel
theorem dX3_of_70 : decode cX3_of 70 = .ok (.getfield 120, 3) := by decide +kernel
theorem dX3_of_73 : decode cX3_of 73 = .ok (.iload_n 1, 1) := by decide +kernel
theorem dX3_of_74 : decode cX3_of 74 = .ok (.iaload, 1) := by decide +kernel
theorem dX3_of_75 : decode cX3_of 75 = .ok (.ireturn, 1) := by decide +kernel
theorem dX3_of_76 : decode cX3_of 76 = .ok (.aload_n 0, 1) := by decide +kernel
theorem dX3_of_77 : decode cX3_of 77 = .ok (.getfield 10, 3) := by decide +kernel
theorem dX3_of_80 : decode cX3_of 80 = .ok (.getfield 123, 3) := by decide +kernel
theorem dX3_of_83 : decode cX3_of 83 = .ok (.iload_n 1, 1) := by decide +kernel
theorem dX3_of_84 : decode cX3_of 84 = .ok (.iaload, 1) := by decide +kernel
theorem dX3_of_85 : decode cX3_of 85 = .ok (.ireturn, 1) := by decide +kernel
theorem dX3_of_86 : decode cX3_of 86 = .ok (.aload_n 0, 1) := by decide +kernel
theorem dX3_of_87 : decode cX3_of 87 = .ok (.getfield 10, 3) := by decide +kernel
theorem dX3_of_90 : decode cX3_of 90 = .ok (.getfield 126, 3) := by decide +kernel
theorem dX3_of_93 : decode cX3_of 93 = .ok (.iload_n 1, 1) := by decide +kernel
theorem dX3_of_94 : decode cX3_of 94 = .ok (.iaload, 1) := by decide +kernel
theorem dX3_of_95 : decode cX3_of 95 = .ok (.ireturn, 1) := by decide +kernel
theorem dX3_of_96 : decode cX3_of 96 = .ok (.aload_n 0, 1) := by decide +kernel
theorem dX3_of_97 : decode cX3_of 97 = .ok (.getfield 10, 3) := by decide +kernel
theorem dX3_of_100 : decode cX3_of 100 = .ok (.iload_n 1, 1) := by decide +kernel
theorem dX3_of_101 : decode cX3_of 101 = .ok (.invokevirtual 129, 3) := by decide +kernel
theorem dX3_of_104 : decode cX3_of 104 = .ok (.ireturn, 1) := by decide +kernel
theorem dX3_of_105 : decode cX3_of 105 = .ok (.aload_n 0, 1) := by decide +kernel
theorem dX3_of_106 : decode cX3_of 106 = .ok (.getfield 10, 3) := by decide +kernel
theorem dX3_of_109 : decode cX3_of 109 = .ok (.iload_n 1, 1) := by decide +kernel
theorem dX3_of_110 : decode cX3_of 110 = .ok (.invokevirtual 133, 3) := by decide +kernel
theorem dX3_of_113 : decode cX3_of 113 = .ok (.ireturn, 1) := by decide +kernel
theorem dX3_of_114 : decode cX3_of 114 = .ok (.aload_n 0, 1) := by decide +kernel
theorem dX3_of_115 : decode cX3_of 115 = .ok (.getfield 10, 3) := by decide +kernel
theorem dX3_of_118 : decode cX3_of 118 = .ok (.iload_n 1, 1) := by decide +kernel
theorem dX3_of_119 : decode cX3_of 119 = .ok (.invokevirtual 136, 3) := by decide +kernel
theorem dX3_of_122 : decode cX3_of 122 = .ok (.ifCond .eq 7, 3) := by decide +kernel
theorem dX3_of_125 : decode cX3_of 125 = .ok (.iconst 1, 1) := by decide +kernel
theorem dX3_of_126 : decode cX3_of 126 = .ok (.goto 4, 3) := by decide +kernel
theorem dX3_of_129 : decode cX3_of 129 = .ok (.iconst 0, 1) := by decide +kernel
theorem dX3_of_130 : decode cX3_of 130 = .ok (.ireturn, 1) := by decide +kernel
theorem dX3_of_131 : decode cX3_of 131 = .ok (.aload_n 0, 1) := by decide +kernel
theorem dX3_of_132 : decode cX3_of 132 = .ok (.getfield 10, 3) := by decide +kernel
theorem dX3_of_135 : decode cX3_of 135 = .ok (.iload_n 1, 1) := by decide +kernel
theorem dX3_of_136 : decode cX3_of 136 = .ok (.invokevirtual 139, 3) := by decide +kernel
theorem dX3_of_139 : decode cX3_of 139 = .ok (.ireturn, 1) := by decide +kernel
theorem dX3_of_140 : decode cX3_of 140 = .ok (.iconst (-1), 1) := by decide +kernel
theorem dX3_of_141 : decode cX3_of 141 = .ok (.ireturn, 1) := by decide +kernel
theorem dX3_loses_0 : decode cX3_loses 0 = .ok (.aload_n 0, 1) := by decide +kernel
theorem dX3_loses_1 : decode cX3_loses 1 = .ok (.iload_n 1, 1) := by decide +kernel
theorem dX3_loses_2 : decode cX3_loses 2 = .ok (.invokevirtual 114, 3) := by decide +kernel
theorem dX3_loses_5 : decode cX3_loses 5 = .ok (.ifCond .eq 18, 3) := by decide +kernel
theorem dX3_loses_8 : decode cX3_loses 8 = .ok (.sipush 1000, 3) := by decide +kernel
theorem dX3_loses_11 : decode cX3_loses 11 = .ok (.aload_n 0, 1) := by decide +kernel
theorem dX3_loses_12 : decode cX3_loses 12 = .ok (.getfield 10, 3) := by decide +kernel
theorem dX3_loses_15 : decode cX3_loses 15 = .ok (.iload_n 1, 1) := by decide +kernel
theorem dX3_loses_16 : decode cX3_loses 16 = .ok (.invokevirtual 142, 3) := by decide +kernel
theorem dX3_loses_19 : decode cX3_loses 19 = .ok (.iadd, 1) := by decide +kernel
theorem dX3_loses_20 : decode cX3_loses 20 = .ok (.goto 4, 3) := by decide +kernel
theorem dX3_loses_23 : decode cX3_loses 23 = .ok (.iconst (-1), 1) := by decide +kernel
theorem dX3_loses_24 : decode cX3_loses 24 = .ok (.ireturn, 1) := by decide +kernel
theorem dX3_mind_0 : decode cX3_mind 0 = .ok (.aload_n 0, 1) := by decide +kernel
theorem dX3_mind_1 : decode cX3_mind 1 = .ok (.iload_n 1, 1) := by decide +kernel
theorem dX3_mind_2 : decode cX3_mind 2 = .ok (.invokevirtual 114, 3) := by decide +kernel
theorem dX3_mind_5 : decode cX3_mind 5 = .ok (.ifCond .eq 19, 3) := by decide +kernel
theorem dX3_mind_8 : decode cX3_mind 8 = .ok (.iload_n 2, 1) := by decide +kernel
theorem dX3_mind_9 : decode cX3_mind 9 = .ok (.invokestatic 104, 3) := by decide +kernel
theorem dX3_mind_12 : decode cX3_mind 12 = .ok (.ifCond .eq 12, 3) := by decide +kernel
theorem dX3_mind_15 : decode cX3_mind 15 = .ok (.iload_n 3, 1) := by decide +kernel
theorem dX3_mind_16 : decode cX3_mind 16 = .ok (.bipush 9, 2) := by decide +kernel
theorem dX3_mind_18 : decode cX3_mind 18 = .ok (.invokestatic 97, 3) := by decide +kernel
theorem dX3_mind_21 : decode cX3_mind 21 = .ok (.ifCond .ne 5, 3) := by decide +kernel
theorem dX3_mind_24 : decode cX3_mind 24 = .ok (.iconst (-1), 1) := by decide +kernel
theorem dX3_mind_25 : decode cX3_mind 25 = .ok (.ireturn, 1) := by decide +kernel
theorem dX3_mind_26 : decode cX3_mind 26 = .ok (.aload_n 0, 1) := by decide +kernel
theorem dX3_mind_27 : decode cX3_mind 27 = .ok (.getfield 10, 3) := by decide +kernel
theorem dX3_mind_30 : decode cX3_mind 30 = .ok (.getfield 117, 3) := by decide +kernel
theorem dX3_mind_33 : decode cX3_mind 33 = .ok (.iload_n 1, 1) := by decide +kernel
theorem dX3_mind_34 : decode cX3_mind 34 = .ok (.iaload, 1) := by decide +kernel
theorem dX3_mind_35 : decode cX3_mind 35 = .ok (.istore 4, 2) := by decide +kernel
theorem dX3_mind_37 : decode cX3_mind 37 = .ok (.aload_n 0, 1) := by decide +kernel
theorem dX3_mind_38 : decode cX3_mind 38 = .ok (.getfield 10, 3) := by decide +kernel
theorem dX3_mind_41 : decode cX3_mind 41 = .ok (.getfield 117, 3) := by decide +kernel
theorem dX3_mind_44 : decode cX3_mind 44 = .ok (.iload_n 1, 1) := by decide +kernel
theorem dX3_mind_45 : decode cX3_mind 45 = .ok (.iload_n 2, 1) := by decide +kernel
theorem dX3_mind_46 : decode cX3_mind 46 = .ok (.iastore, 1) := by decide +kernel
theorem dX3_mind_47 : decode cX3_mind 47 = .ok (.aload_n 0, 1) := by decide +kernel
theorem dX3_mind_48 : decode cX3_mind 48 = .ok (.getfield 10, 3) := by decide +kernel
theorem dX3_mind_51 : decode cX3_mind 51 = .ok (.getfield 120, 3) := by decide +kernel
theorem dX3_mind_54 : decode cX3_mind 54 = .ok (.iload_n 1, 1) := by decide +kernel
theorem dX3_mind_55 : decode cX3_mind 55 = .ok (.iload_n 3, 1) := by decide +kernel
theorem dX3_mind_56 : decode cX3_mind 56 = .ok (.iastore, 1) := by decide +kernel
theorem dX3_mind_57 : decode cX3_mind 57 = .ok (.iload 4, 2) := by decide +kernel
theorem dX3_mind_59 : decode cX3_mind 59 = .ok (.ireturn, 1) := by decide +kernel
theorem dX3_sure_0 : decode cX3_sure 0 = .ok (.aload_n 0, 1) := by decide +kernel
theorem dX3_sure_1 : decode cX3_sure 1 = .ok (.iload_n 1, 1) := by decide +kernel
theorem dX3_sure_2 : decode cX3_sure 2 = .ok (.invokevirtual 114, 3) := by decide +kernel
theorem dX3_sure_5 : decode cX3_sure 5 = .ok (.ifCond .eq 12, 3) := by decide +kernel
theorem dX3_sure_8 : decode cX3_sure 8 = .ok (.iload_n 2, 1) := by decide +kernel
theorem dX3_sure_9 : decode cX3_sure 9 = .ok (.bipush 99, 2) := by decide +kernel
theorem dX3_sure_11 : decode cX3_sure 11 = .ok (.invokestatic 97, 3) := by decide +kernel
theorem dX3_sure_14 : decode cX3_sure 14 = .ok (.ifCond .ne 5, 3) := by decide +kernel
theorem dX3_sure_17 : decode cX3_sure 17 = .ok (.iconst (-1), 1) := by decide +kernel
theorem dX3_sure_18 : decode cX3_sure 18 = .ok (.ireturn, 1) := by decide +kernel
theorem dX3_sure_19 : decode cX3_sure 19 = .ok (.aload_n 0, 1) := by decide +kernel
theorem dX3_sure_20 : decode cX3_sure 20 = .ok (.getfield 10, 3) := by decide +kernel
theorem dX3_sure_23 : decode cX3_sure 23 = .ok (.getfield 123, 3) := by decide +kernel
theorem dX3_sure_26 : decode cX3_sure 26 = .ok (.iload_n 1, 1) := by decide +kernel
theorem dX3_sure_27 : decode cX3_sure 27 = .ok (.iaload, 1) := by decide +kernel
theorem dX3_sure_28 : decode cX3_sure 28 = .ok (.istore_n 3, 1) := by decide +kernel
theorem dX3_sure_29 : decode cX3_sure 29 = .ok (.aload_n 0, 1) := by decide +kernel
theorem dX3_sure_30 : decode cX3_sure 30 = .ok (.getfield 10, 3) := by decide +kernel
theorem dX3_sure_33 : decode cX3_sure 33 = .ok (.getfield 123, 3) := by decide +kernel
theorem dX3_sure_36 : decode cX3_sure 36 = .ok (.iload_n 1, 1) := by decide +kernel
theorem dX3_sure_37 : decode cX3_sure 37 = .ok (.iload_n 2, 1) := by decide +kernel
theorem dX3_sure_38 : decode cX3_sure 38 = .ok (.iastore, 1) := by decide +kernel
theorem dX3_sure_39 : decode cX3_sure 39 = .ok (.iload_n 3, 1) := by decide +kernel
theorem dX3_sure_40 : decode cX3_sure 40 = .ok (.ireturn, 1) := by decide +kernel
theorem dX3_bring_0 : decode cX3_bring 0 = .ok (.aload_n 0, 1) := by decide +kernel
theorem dX3_bring_1 : decode cX3_bring 1 = .ok (.iload_n 1, 1) := by decide +kernel
theorem dX3_bring_2 : decode cX3_bring 2 = .ok (.invokevirtual 114, 3) := by decide +kernel
theorem dX3_bring_5 : decode cX3_bring 5 = .ok (.ifCond .eq 10, 3) := by decide +kernel
theorem dX3_bring_8 : decode cX3_bring 8 = .ok (.iload_n 2, 1) := by decide +kernel
theorem dX3_bring_9 : decode cX3_bring 9 = .ok (.invokestatic 107, 3) := by decide +kernel
theorem dX3_bring_12 : decode cX3_bring 12 = .ok (.ifCond .ne 5, 3) := by decide +kernel
theorem dX3_bring_15 : decode cX3_bring 15 = .ok (.iconst (-1), 1) := by decide +kernel
theorem dX3_bring_16 : decode cX3_bring 16 = .ok (.ireturn, 1) := by decide +kernel
theorem dX3_bring_17 : decode cX3_bring 17 = .ok (.aload_n 0, 1) := by decide +kernel
theorem dX3_bring_18 : decode cX3_bring 18 = .ok (.getfield 10, 3) := by decide +kernel
theorem dX3_bring_21 : decode cX3_bring 21 = .ok (.getfield 126, 3) := by decide +kernel
theorem dX3_bring_24 : decode cX3_bring 24 = .ok (.iload_n 1, 1) := by decide +kernel
theorem dX3_bring_25 : decode cX3_bring 25 = .ok (.iaload, 1) := by decide +kernel
theorem dX3_bring_26 : decode cX3_bring 26 = .ok (.istore_n 3, 1) := by decide +kernel
theorem dX3_bring_27 : decode cX3_bring 27 = .ok (.aload_n 0, 1) := by decide +kernel
theorem dX3_bring_28 : decode cX3_bring 28 = .ok (.getfield 10, 3) := by decide +kernel
theorem dX3_bring_31 : decode cX3_bring 31 = .ok (.getfield 126, 3) := by decide +kernel
theorem dX3_bring_34 : decode cX3_bring 34 = .ok (.iload_n 1, 1) := by decide +kernel
theorem dX3_bring_35 : decode cX3_bring 35 = .ok (.iload_n 2, 1) := by decide +kernel
theorem dX3_bring_36 : decode cX3_bring 36 = .ok (.iastore, 1) := by decide +kernel
theorem dX3_bring_37 : decode cX3_bring 37 = .ok (.iload_n 3, 1) := by decide +kernel
theorem dX3_bring_38 : decode cX3_bring 38 = .ok (.ireturn, 1) := by decide +kernel
theorem dX3_cell_0 : decode cX3_cell 0 = .ok (.iload_n 1, 1) := by decide +kernel
theorem dX3_cell_1 : decode cX3_cell 1 = .ok (.invokestatic 107, 3) := by decide +kernel
theorem dX3_cell_4 : decode cX3_cell 4 = .ok (.ifCond .ne 5, 3) := by decide +kernel
theorem dX3_cell_7 : decode cX3_cell 7 = .ok (.iconst (-1), 1) := by decide +kernel
theorem dX3_cell_8 : decode cX3_cell 8 = .ok (.ireturn, 1) := by decide +kernel
theorem dX3_cell_9 : decode cX3_cell 9 = .ok (.iload_n 2, 1) := by decide +kernel
theorem dX3_cell_10 : decode cX3_cell 10 = .ok (.tableswitch 81 0 4 #[34, 44, 54, 63, 72], 34) := by decide +kernel
theorem dX3_cell_44 : decode cX3_cell 44 = .ok (.aload_n 0, 1) := by decide +kernel
theorem dX3_cell_45 : decode cX3_cell 45 = .ok (.getfield 10, 3) := by decide +kernel
theorem dX3_cell_48 : decode cX3_cell 48 = .ok (.getfield 145, 3) := by decide +kernel
theorem dX3_cell_51 : decode cX3_cell 51 = .ok (.iload_n 1, 1) := by decide +kernel
theorem dX3_cell_52 : decode cX3_cell 52 = .ok (.iaload, 1) := by decide +kernel
theorem dX3_cell_53 : decode cX3_cell 53 = .ok (.ireturn, 1) := by decide +kernel
theorem dX3_cell_54 : decode cX3_cell 54 = .ok (.aload_n 0, 1) := by decide +kernel
theorem dX3_cell_55 : decode cX3_cell 55 = .ok (.getfield 10, 3) := by decide +kernel
theorem dX3_cell_58 : decode cX3_cell 58 = .ok (.getfield 148, 3) := by decide +kernel
theorem dX3_cell_61 : decode cX3_cell 61 = .ok (.iload_n 1, 1) := by decide +kernel
theorem dX3_cell_62 : decode cX3_cell 62 = .ok (.iaload, 1) := by decide +kernel
theorem dX3_cell_63 : decode cX3_cell 63 = .ok (.ireturn, 1) := by decide +kernel
theorem dX3_cell_64 : decode cX3_cell 64 = .ok (.aload_n 0, 1) := by decide +kernel
theorem dX3_cell_65 : decode cX3_cell 65 = .ok (.getfield 10, 3) := by decide +kernel
theorem dX3_cell_68 : decode cX3_cell 68 = .ok (.iload_n 1, 1) := by decide +kernel
theorem dX3_cell_69 : decode cX3_cell 69 = .ok (.invokevirtual 151, 3) := by decide +kernel
theorem dX3_cell_72 : decode cX3_cell 72 = .ok (.ireturn, 1) := by decide +kernel
theorem dX3_cell_73 : decode cX3_cell 73 = .ok (.aload_n 0, 1) := by decide +kernel
theorem dX3_cell_74 : decode cX3_cell 74 = .ok (.getfield 10, 3) := by decide +kernel
theorem dX3_cell_77 : decode cX3_cell 77 = .ok (.iload_n 1, 1) := by decide +kernel
theorem dX3_cell_78 : decode cX3_cell 78 = .ok (.invokevirtual 154, 3) := by decide +kernel
theorem dX3_cell_81 : decode cX3_cell 81 = .ok (.ireturn, 1) := by decide +kernel
theorem dX3_cell_82 : decode cX3_cell 82 = .ok (.aload_n 0, 1) := by decide +kernel
theorem dX3_cell_83 : decode cX3_cell 83 = .ok (.getfield 10, 3) := by decide +kernel
theorem dX3_cell_86 : decode cX3_cell 86 = .ok (.iload_n 1, 1) := by decide +kernel
theorem dX3_cell_87 : decode cX3_cell 87 = .ok (.invokevirtual 157, 3) := by decide +kernel
theorem dX3_cell_90 : decode cX3_cell 90 = .ok (.ireturn, 1) := by decide +kernel
theorem dX3_cell_91 : decode cX3_cell 91 = .ok (.iconst (-1), 1) := by decide +kernel
theorem dX3_cell_92 : decode cX3_cell 92 = .ok (.ireturn, 1) := by decide +kernel
theorem dX3_lowest_0 : decode cX3_lowest 0 = .ok (.iload_n 1, 1) := by decide +kernel
theorem dX3_lowest_1 : decode cX3_lowest 1 = .ok (.invokestatic 107, 3) := by decide +kernel
theorem dX3_lowest_4 : decode cX3_lowest 4 = .ok (.ifCond .ne 5, 3) := by decide +kernel
theorem dX3_lowest_7 : decode cX3_lowest 7 = .ok (.iconst (-1), 1) := by decide +kernel
theorem dX3_lowest_8 : decode cX3_lowest 8 = .ok (.ireturn, 1) := by decide +kernel
theorem dX3_lowest_9 : decode cX3_lowest 9 = .ok (.aload_n 0, 1) := by decide +kernel
theorem dX3_lowest_10 : decode cX3_lowest 10 = .ok (.getfield 10, 3) := by decide +kernel
theorem dX3_lowest_13 : decode cX3_lowest 13 = .ok (.getfield 160, 3) := by decide +kernel
theorem dX3_lowest_16 : decode cX3_lowest 16 = .ok (.iload_n 1, 1) := by decide +kernel
theorem dX3_lowest_17 : decode cX3_lowest 17 = .ok (.iaload, 1) := by decide +kernel
theorem dX3_lowest_18 : decode cX3_lowest 18 = .ok (.ifCond .ge 8, 3) := by decide +kernel
theorem dX3_lowest_21 : decode cX3_lowest 21 = .ok (.bipush (-3), 2) := by decide +kernel
theorem dX3_lowest_23 : decode cX3_lowest 23 = .ok (.goto 12, 3) := by decide +kernel
theorem dX3_lowest_26 : decode cX3_lowest 26 = .ok (.aload_n 0, 1) := by decide +kernel
theorem dX3_lowest_27 : decode cX3_lowest 27 = .ok (.getfield 10, 3) := by decide +kernel
theorem dX3_lowest_30 : decode cX3_lowest 30 = .ok (.getfield 160, 3) := by decide +kernel
theorem dX3_lowest_33 : decode cX3_lowest 33 = .ok (.iload_n 1, 1) := by decide +kernel
theorem dX3_lowest_34 : decode cX3_lowest 34 = .ok (.iaload, 1) := by decide +kernel
theorem dX3_lowest_35 : decode cX3_lowest 35 = .ok (.ireturn, 1) := by decide +kernel
theorem dX3_water_0 : decode cX3_water 0 = .ok (.iload_n 1, 1) := by decide +kernel
theorem dX3_water_1 : decode cX3_water 1 = .ok (.invokestatic 107, 3) := by decide +kernel
theorem dX3_water_4 : decode cX3_water 4 = .ok (.ifCond .eq 12, 3) := by decide +kernel
theorem dX3_water_7 : decode cX3_water 7 = .ok (.iload_n 2, 1) := by decide +kernel
theorem dX3_water_8 : decode cX3_water 8 = .ok (.bipush 99, 2) := by decide +kernel
theorem dX3_water_10 : decode cX3_water 10 = .ok (.invokestatic 97, 3) := by decide +kernel
theorem dX3_water_13 : decode cX3_water 13 = .ok (.ifCond .ne 5, 3) := by decide +kernel
theorem dX3_water_16 : decode cX3_water 16 = .ok (.iconst (-1), 1) := by decide +kernel
theorem dX3_water_17 : decode cX3_water 17 = .ok (.ireturn, 1) := by decide +kernel
theorem dX3_water_18 : decode cX3_water 18 = .ok (.aload_n 0, 1) := by decide +kernel
theorem dX3_water_19 : decode cX3_water 19 = .ok (.getfield 10, 3) := by decide +kernel
theorem dX3_water_22 : decode cX3_water 22 = .ok (.getfield 145, 3) := by decide +kernel
theorem dX3_water_25 : decode cX3_water 25 = .ok (.iload_n 1, 1) := by decide +kernel
theorem dX3_water_26 : decode cX3_water 26 = .ok (.iaload, 1) := by decide +kernel
theorem dX3_water_27 : decode cX3_water 27 = .ok (.istore_n 3, 1) := by decide +kernel
theorem dX3_water_28 : decode cX3_water 28 = .ok (.aload_n 0, 1) := by decide +kernel
theorem dX3_water_29 : decode cX3_water 29 = .ok (.getfield 10, 3) := by decide +kernel
theorem dX3_water_32 : decode cX3_water 32 = .ok (.getfield 145, 3) := by decide +kernel
theorem dX3_water_35 : decode cX3_water 35 = .ok (.iload_n 1, 1) := by decide +kernel
theorem dX3_water_36 : decode cX3_water 36 = .ok (.iload_n 2, 1) := by decide +kernel
theorem dX3_water_37 : decode cX3_water 37 = .ok (.iastore, 1) := by decide +kernel
theorem dX3_water_38 : decode cX3_water 38 = .ok (.iload_n 3, 1) := by decide +kernel
theorem dX3_water_39 : decode cX3_water 39 = .ok (.ireturn, 1) := by decide +kernel
theorem dX3_height_0 : decode cX3_height 0 = .ok (.iload_n 1, 1) := by decide +kernel
theorem dX3_height_1 : decode cX3_height 1 = .ok (.invokestatic 107, 3) := by decide +kernel
theorem dX3_height_4 : decode cX3_height 4 = .ok (.ifCond .eq 12, 3) := by decide +kernel
theorem dX3_height_7 : decode cX3_height 7 = .ok (.iload_n 2, 1) := by decide +kernel
theorem dX3_height_8 : decode cX3_height 8 = .ok (.bipush 9, 2) := by decide +kernel
theorem dX3_height_10 : decode cX3_height 10 = .ok (.invokestatic 97, 3) := by decide +kernel
theorem dX3_height_13 : decode cX3_height 13 = .ok (.ifCond .ne 5, 3) := by decide +kernel
theorem dX3_height_16 : decode cX3_height 16 = .ok (.iconst (-1), 1) := by decide +kernel
theorem dX3_height_17 : decode cX3_height 17 = .ok (.ireturn, 1) := by decide +kernel
theorem dX3_height_18 : decode cX3_height 18 = .ok (.aload_n 0, 1) := by decide +kernel
theorem dX3_height_19 : decode cX3_height 19 = .ok (.getfield 10, 3) := by decide +kernel
theorem dX3_height_22 : decode cX3_height 22 = .ok (.getfield 148, 3) := by decide +kernel
theorem dX3_height_25 : decode cX3_height 25 = .ok (.iload_n 1, 1) := by decide +kernel
theorem dX3_height_26 : decode cX3_height 26 = .ok (.iaload, 1) := by decide +kernel
theorem dX3_height_27 : decode cX3_height 27 = .ok (.istore_n 3, 1) := by decide +kernel
theorem dX3_height_28 : decode cX3_height 28 = .ok (.aload_n 0, 1) := by decide +kernel
theorem dX3_height_29 : decode cX3_height 29 = .ok (.getfield 10, 3) := by decide +kernel
theorem dX3_height_32 : decode cX3_height 32 = .ok (.iload_n 1, 1) := by decide +kernel
theorem dX3_height_33 : decode cX3_height 33 = .ok (.iload_n 2, 1) := by decide +kernel
theorem dX3_height_34 : decode cX3_height 34 = .ok (.invokevirtual 163, 3) := by decide +kernel
theorem dX3_height_37 : decode cX3_height 37 = .ok (.iload_n 3, 1) := by decide +kernel
theorem dX3_height_38 : decode cX3_height 38 = .ok (.ireturn, 1) := by decide +kernel
theorem dX3_wets_0 : decode cX3_wets 0 = .ok (.iload_n 1, 1) := by decide +kernel
theorem dX3_wets_1 : decode cX3_wets 1 = .ok (.tableswitch 51 0 2 #[27, 35, 43], 27) := by decide +kernel
theorem dX3_wets_28 : decode cX3_wets 28 = .ok (.aload_n 0, 1) := by decide +kernel
theorem dX3_wets_29 : decode cX3_wets 29 = .ok (.getfield 10, 3) := by decide +kernel
theorem dX3_wets_32 : decode cX3_wets 32 = .ok (.invokevirtual 167, 3) := by decide +kernel
theorem dX3_wets_35 : decode cX3_wets 35 = .ok (.lreturn, 1) := by decide +kernel
theorem dX3_wets_36 : decode cX3_wets 36 = .ok (.aload_n 0, 1) := by decide +kernel
theorem dX3_wets_37 : decode cX3_wets 37 = .ok (.getfield 10, 3) := by decide +kernel
theorem dX3_wets_40 : decode cX3_wets 40 = .ok (.invokevirtual 171, 3) := by decide +kernel
theorem dX3_wets_43 : decode cX3_wets 43 = .ok (.lreturn, 1) := by decide +kernel
theorem dX3_wets_44 : decode cX3_wets 44 = .ok (.aload_n 0, 1) := by decide +kernel
theorem dX3_wets_45 : decode cX3_wets 45 = .ok (.getfield 10, 3) := by decide +kernel
theorem dX3_wets_48 : decode cX3_wets 48 = .ok (.invokevirtual 174, 3) := by decide +kernel
theorem dX3_wets_51 : decode cX3_wets 51 = .ok (.lreturn, 1) := by decide +kernel
theorem dX3_wets_52 : decode cX3_wets 52 = .ok (.ldc2_w 177, 3) := by decide +kernel
theorem dX3_wets_55 : decode cX3_wets 55 = .ok (.lreturn, 1) := by decide +kernel
theorem dX3_years_0 : decode cX3_years 0 = .ok (.iload_n 1, 1) := by decide +kernel
theorem dX3_years_1 : decode cX3_years 1 = .ok (.iconst 1, 1) := by decide +kernel
theorem dX3_years_2 : decode cX3_years 2 = .ok (.if_icmp .lt 9, 3) := by decide +kernel
theorem dX3_years_5 : decode cX3_years 5 = .ok (.iload_n 1, 1) := by decide +kernel
theorem dX3_years_6 : decode cX3_years 6 = .ok (.bipush 60, 2) := by decide +kernel
theorem dX3_years_8 : decode cX3_years 8 = .ok (.if_icmp .le 5, 3) := by decide +kernel
theorem dX3_years_11 : decode cX3_years 11 = .ok (.iconst (-1), 1) := by decide +kernel
theorem dX3_years_12 : decode cX3_years 12 = .ok (.ireturn, 1) := by decide +kernel
theorem dX3_years_13 : decode cX3_years 13 = .ok (.aload_n 0, 1) := by decide +kernel
theorem dX3_years_14 : decode cX3_years 14 = .ok (.getfield 10, 3) := by decide +kernel
theorem dX3_years_17 : decode cX3_years 17 = .ok (.iload_n 1, 1) := by decide +kernel
theorem dX3_years_18 : decode cX3_years 18 = .ok (.invokevirtual 179, 3) := by decide +kernel
theorem dX3_years_21 : decode cX3_years 21 = .ok (.aload_n 0, 1) := by decide +kernel
theorem dX3_years_22 : decode cX3_years 22 = .ok (.getfield 10, 3) := by decide +kernel
theorem dX3_years_25 : decode cX3_years 25 = .ok (.invokevirtual 167, 3) := by decide +kernel
theorem dX3_years_28 : decode cX3_years 28 = .ok (.invokestatic 183, 3) := by decide +kernel
theorem dX3_years_31 : decode cX3_years 31 = .ok (.ireturn, 1) := by decide +kernel
theorem dX3_seed_0 : decode cX3_seed 0 = .ok (.aload_n 0, 1) := by decide +kernel
theorem dX3_seed_1 : decode cX3_seed 1 = .ok (.getfield 10, 3) := by decide +kernel
theorem dX3_seed_4 : decode cX3_seed 4 = .ok (.getfield 77, 3) := by decide +kernel
theorem dX3_seed_7 : decode cX3_seed 7 = .ok (.istore_n 2, 1) := by decide +kernel
theorem dX3_seed_8 : decode cX3_seed 8 = .ok (.aload_n 0, 1) := by decide +kernel
theorem dX3_seed_9 : decode cX3_seed 9 = .ok (.getfield 10, 3) := by decide +kernel
theorem dX3_seed_12 : decode cX3_seed 12 = .ok (.iload_n 1, 1) := by decide +kernel
theorem dX3_seed_13 : decode cX3_seed 13 = .ok (.putfield 77, 3) := by decide +kernel
theorem dX3_seed_16 : decode cX3_seed 16 = .ok (.iload_n 2, 1) := by decide +kernel
theorem dX3_seed_17 : decode cX3_seed 17 = .ok (.ireturn, 1) := by decide +kernel
theorem dX3_year_0 : decode cX3_year 0 = .ok (.aload_n 0, 1) := by decide +kernel
theorem dX3_year_1 : decode cX3_year 1 = .ok (.getfield 10, 3) := by decide +kernel
theorem dX3_year_4 : decode cX3_year 4 = .ok (.invokevirtual 189, 3) := by decide +kernel
theorem dX3_year_7 : decode cX3_year 7 = .ok (.aload_n 0, 1) := by decide +kernel
theorem dX3_year_8 : decode cX3_year 8 = .ok (.getfield 10, 3) := by decide +kernel
theorem dX3_year_11 : decode cX3_year 11 = .ok (.invokevirtual 192, 3) := by decide +kernel
theorem dX3_year_14 : decode cX3_year 14 = .ok (.invokestatic 196, 3) := by decide +kernel
theorem dX3_year_17 : decode cX3_year 17 = .ok (.ireturn, 1) := by decide +kernel
theorem dX3_revel_0 : decode cX3_revel 0 = .ok (.iload_n 1, 1) := by decide +kernel
theorem dX3_revel_1 : decode cX3_revel 1 = .ok (.iconst 1, 1) := by decide +kernel
theorem dX3_revel_2 : decode cX3_revel 2 = .ok (.if_icmp .lt 9, 3) := by decide +kernel
theorem dX3_revel_5 : decode cX3_revel 5 = .ok (.iload_n 1, 1) := by decide +kernel
theorem dX3_revel_6 : decode cX3_revel 6 = .ok (.bipush 30, 2) := by decide +kernel
theorem dX3_revel_8 : decode cX3_revel 8 = .ok (.if_icmp .le 5, 3) := by decide +kernel
theorem dX3_revel_11 : decode cX3_revel 11 = .ok (.iconst (-1), 1) := by decide +kernel
theorem dX3_revel_12 : decode cX3_revel 12 = .ok (.ireturn, 1) := by decide +kernel
theorem dX3_revel_13 : decode cX3_revel 13 = .ok (.aload_n 0, 1) := by decide +kernel
theorem dX3_revel_14 : decode cX3_revel 14 = .ok (.getfield 10, 3) := by decide +kernel
theorem dX3_revel_17 : decode cX3_revel 17 = .ok (.invokevirtual 192, 3) := by decide +kernel
theorem dX3_revel_20 : decode cX3_revel 20 = .ok (.invokestatic 196, 3) := by decide +kernel
theorem dX3_revel_23 : decode cX3_revel 23 = .ok (.istore_n 2, 1) := by decide +kernel
theorem dX3_revel_24 : decode cX3_revel 24 = .ok (.aload_n 0, 1) := by decide +kernel
theorem dX3_revel_25 : decode cX3_revel 25 = .ok (.getfield 10, 3) := by decide +kernel
theorem dX3_revel_28 : decode cX3_revel 28 = .ok (.getfield 77, 3) := by decide +kernel
theorem dX3_revel_31 : decode cX3_revel 31 = .ok (.istore_n 3, 1) := by decide +kernel
theorem dX3_revel_32 : decode cX3_revel 32 = .ok (.iconst 0, 1) := by decide +kernel
theorem dX3_revel_33 : decode cX3_revel 33 = .ok (.istore 4, 2) := by decide +kernel
theorem dX3_revel_35 : decode cX3_revel 35 = .ok (.iconst 0, 1) := by decide +kernel
theorem dX3_revel_36 : decode cX3_revel 36 = .ok (.istore 5, 2) := by decide +kernel
theorem dX3_revel_38 : decode cX3_revel 38 = .ok (.iload 5, 2) := by decide +kernel
theorem dX3_revel_40 : decode cX3_revel 40 = .ok (.iload_n 1, 1) := by decide +kernel
theorem dX3_revel_41 : decode cX3_revel 41 = .ok (.if_icmp .ge 60, 3) := by decide +kernel
theorem dX3_revel_44 : decode cX3_revel 44 = .ok (.aload_n 0, 1) := by decide +kernel
theorem dX3_revel_45 : decode cX3_revel 45 = .ok (.getfield 16, 3) := by decide +kernel
theorem dX3_revel_48 : decode cX3_revel 48 = .ok (.aload_n 0, 1) := by decide +kernel
theorem dX3_revel_49 : decode cX3_revel 49 = .ok (.getfield 10, 3) := by decide +kernel
theorem dX3_revel_52 : decode cX3_revel 52 = .ok (.invokevirtual 80, 3) := by decide +kernel
theorem dX3_revel_55 : decode cX3_revel 55 = .ok (.aload_n 0, 1) := by decide +kernel
theorem dX3_revel_56 : decode cX3_revel 56 = .ok (.getfield 16, 3) := by decide +kernel
theorem dX3_revel_59 : decode cX3_revel 59 = .ok (.iload_n 3, 1) := by decide +kernel
theorem dX3_revel_60 : decode cX3_revel 60 = .ok (.putfield 77, 3) := by decide +kernel
theorem dX3_revel_63 : decode cX3_revel 63 = .ok (.aload_n 0, 1) := by decide +kernel
theorem dX3_revel_64 : decode cX3_revel 64 = .ok (.getfield 16, 3) := by decide +kernel
theorem dX3_revel_67 : decode cX3_revel 67 = .ok (.invokevirtual 189, 3) := by decide +kernel
theorem dX3_revel_70 : decode cX3_revel 70 = .ok (.aload_n 0, 1) := by decide +kernel
theorem dX3_revel_71 : decode cX3_revel 71 = .ok (.getfield 16, 3) := by decide +kernel
theorem dX3_revel_74 : decode cX3_revel 74 = .ok (.getfield 77, 3) := by decide +kernel
theorem dX3_revel_77 : decode cX3_revel 77 = .ok (.istore_n 3, 1) := by decide +kernel
theorem dX3_revel_78 : decode cX3_revel 78 = .ok (.aload_n 0, 1) := by decide +kernel
theorem dX3_revel_79 : decode cX3_revel 79 = .ok (.getfield 16, 3) := by decide +kernel
theorem dX3_revel_82 : decode cX3_revel 82 = .ok (.invokevirtual 192, 3) := by decide +kernel
theorem dX3_revel_85 : decode cX3_revel 85 = .ok (.invokestatic 196, 3) := by decide +kernel
theorem dX3_revel_88 : decode cX3_revel 88 = .ok (.iload_n 2, 1) := by decide +kernel
theorem dX3_revel_89 : decode cX3_revel 89 = .ok (.if_icmp .le 6, 3) := by decide +kernel
theorem dX3_revel_92 : decode cX3_revel 92 = .ok (.iinc 4 1, 3) := by decide +kernel
theorem dX3_revel_95 : decode cX3_revel 95 = .ok (.iinc 5 1, 3) := by decide +kernel
theorem dX3_revel_98 : decode cX3_revel 98 = .ok (.goto (-60), 3) := by decide +kernel
theorem dX3_revel_101 : decode cX3_revel 101 = .ok (.iload 4, 2) := by decide +kernel
theorem dX3_revel_103 : decode cX3_revel 103 = .ok (.ireturn, 1) := by decide +kernel
theorem dX3_state_0 : decode cX3_state 0 = .ok (.iload_n 1, 1) := by decide +kernel
theorem dX3_state_1 : decode cX3_state 1 = .ok (.tableswitch 75 0 4 #[35, 43, 51, 59, 67], 35) := by decide +kernel
theorem dX3_state_36 : decode cX3_state 36 = .ok (.aload_n 0, 1) := by decide +kernel
theorem dX3_state_37 : decode cX3_state 37 = .ok (.getfield 10, 3) := by decide +kernel
theorem dX3_state_40 : decode cX3_state 40 = .ok (.getfield 200, 3) := by decide +kernel
theorem dX3_state_43 : decode cX3_state 43 = .ok (.ireturn, 1) := by decide +kernel
theorem dX3_state_44 : decode cX3_state 44 = .ok (.aload_n 0, 1) := by decide +kernel
theorem dX3_state_45 : decode cX3_state 45 = .ok (.getfield 10, 3) := by decide +kernel
theorem dX3_state_48 : decode cX3_state 48 = .ok (.invokevirtual 203, 3) := by decide +kernel
theorem dX3_state_51 : decode cX3_state 51 = .ok (.ireturn, 1) := by decide +kernel
theorem dX3_state_52 : decode cX3_state 52 = .ok (.aload_n 0, 1) := by decide +kernel
theorem dX3_state_53 : decode cX3_state 53 = .ok (.getfield 10, 3) := by decide +kernel
theorem dX3_state_56 : decode cX3_state 56 = .ok (.invokevirtual 192, 3) := by decide +kernel
theorem dX3_state_59 : decode cX3_state 59 = .ok (.ireturn, 1) := by decide +kernel
theorem dX3_state_60 : decode cX3_state 60 = .ok (.aload_n 0, 1) := by decide +kernel
theorem dX3_state_61 : decode cX3_state 61 = .ok (.getfield 10, 3) := by decide +kernel
theorem dX3_state_64 : decode cX3_state 64 = .ok (.invokevirtual 206, 3) := by decide +kernel
theorem dX3_state_67 : decode cX3_state 67 = .ok (.ireturn, 1) := by decide +kernel
theorem dX3_state_68 : decode cX3_state 68 = .ok (.aload_n 0, 1) := by decide +kernel
theorem dX3_state_69 : decode cX3_state 69 = .ok (.getfield 10, 3) := by decide +kernel
theorem dX3_state_72 : decode cX3_state 72 = .ok (.invokevirtual 209, 3) := by decide +kernel
theorem dX3_state_75 : decode cX3_state 75 = .ok (.ireturn, 1) := by decide +kernel
theorem dX3_state_76 : decode cX3_state 76 = .ok (.iconst (-1), 1) := by decide +kernel
theorem dX3_state_77 : decode cX3_state 77 = .ok (.ireturn, 1) := by decide +kernel
theorem dX3_level_0 : decode cX3_level 0 = .ok (.iload_n 1, 1) := by decide +kernel
theorem dX3_level_1 : decode cX3_level 1 = .ok (.invokestatic 107, 3) := by decide +kernel
theorem dX3_level_4 : decode cX3_level 4 = .ok (.ifCond .eq 12, 3) := by decide +kernel
theorem dX3_level_7 : decode cX3_level 7 = .ok (.iload_n 2, 1) := by decide +kernel
theorem dX3_level_8 : decode cX3_level 8 = .ok (.bipush 60, 2) := by decide +kernel
theorem dX3_level_10 : decode cX3_level 10 = .ok (.invokestatic 97, 3) := by decide +kernel
theorem dX3_level_13 : decode cX3_level 13 = .ok (.ifCond .ne 5, 3) := by decide +kernel
theorem dX3_level_16 : decode cX3_level 16 = .ok (.iconst (-1), 1) := by decide +kernel
theorem dX3_level_17 : decode cX3_level 17 = .ok (.ireturn, 1) := by decide +kernel
theorem dX3_level_18 : decode cX3_level 18 = .ok (.aload_n 0, 1) := by decide +kernel
theorem dX3_level_19 : decode cX3_level 19 = .ok (.getfield 16, 3) := by decide +kernel
theorem dX3_level_22 : decode cX3_level 22 = .ok (.aload_n 0, 1) := by decide +kernel
theorem dX3_level_23 : decode cX3_level 23 = .ok (.getfield 10, 3) := by decide +kernel
theorem dX3_level_26 : decode cX3_level 26 = .ok (.invokevirtual 80, 3) := by decide +kernel
theorem dX3_level_29 : decode cX3_level 29 = .ok (.aload_n 0, 1) := by decide +kernel
theorem dX3_level_30 : decode cX3_level 30 = .ok (.getfield 16, 3) := by decide +kernel
theorem dX3_level_33 : decode cX3_level 33 = .ok (.iload_n 2, 1) := by decide +kernel
theorem dX3_level_34 : decode cX3_level 34 = .ok (.invokevirtual 179, 3) := by decide +kernel
theorem dX3_level_37 : decode cX3_level 37 = .ok (.aload_n 0, 1) := by decide +kernel
theorem dX3_level_38 : decode cX3_level 38 = .ok (.getfield 16, 3) := by decide +kernel
theorem dX3_level_41 : decode cX3_level 41 = .ok (.getfield 145, 3) := by decide +kernel
theorem dX3_level_44 : decode cX3_level 44 = .ok (.iload_n 1, 1) := by decide +kernel
theorem dX3_level_45 : decode cX3_level 45 = .ok (.iaload, 1) := by decide +kernel
theorem dX3_level_46 : decode cX3_level 46 = .ok (.ireturn, 1) := by decide +kernel
theorem dX3_damp_0 : decode cX3_damp 0 = .ok (.iload_n 1, 1) := by decide +kernel
theorem dX3_damp_1 : decode cX3_damp 1 = .ok (.invokestatic 107, 3) := by decide +kernel
theorem dX3_damp_4 : decode cX3_damp 4 = .ok (.ifCond .ne 5, 3) := by decide +kernel
theorem dX3_damp_7 : decode cX3_damp 7 = .ok (.iconst (-1), 1) := by decide +kernel
theorem dX3_damp_8 : decode cX3_damp 8 = .ok (.ireturn, 1) := by decide +kernel
theorem dX3_damp_9 : decode cX3_damp 9 = .ok (.aload_n 0, 1) := by decide +kernel
theorem dX3_damp_10 : decode cX3_damp 10 = .ok (.getfield 16, 3) := by decide +kernel
theorem dX3_damp_13 : decode cX3_damp 13 = .ok (.aload_n 0, 1) := by decide +kernel
theorem dX3_damp_14 : decode cX3_damp 14 = .ok (.getfield 10, 3) := by decide +kernel
theorem dX3_damp_17 : decode cX3_damp 17 = .ok (.invokevirtual 80, 3) := by decide +kernel
theorem dX3_damp_20 : decode cX3_damp 20 = .ok (.iconst 0, 1) := by decide +kernel
theorem dX3_damp_21 : decode cX3_damp 21 = .ok (.istore_n 2, 1) := by decide +kernel
theorem dX3_damp_22 : decode cX3_damp 22 = .ok (.iload_n 2, 1) := by decide +kernel
theorem dX3_damp_23 : decode cX3_damp 23 = .ok (.bipush 60, 2) := by decide +kernel
theorem dX3_damp_25 : decode cX3_damp 25 = .ok (.if_icmp .gt 29, 3) := by decide +kernel
theorem dX3_damp_28 : decode cX3_damp 28 = .ok (.aload_n 0, 1) := by decide +kernel
theorem dX3_damp_29 : decode cX3_damp 29 = .ok (.getfield 16, 3) := by decide +kernel
theorem dX3_damp_32 : decode cX3_damp 32 = .ok (.iload_n 1, 1) := by decide +kernel
theorem dX3_damp_33 : decode cX3_damp 33 = .ok (.invokevirtual 212, 3) := by decide +kernel
theorem dX3_damp_36 : decode cX3_damp 36 = .ok (.ifCond .eq 5, 3) := by decide +kernel
theorem dX3_damp_39 : decode cX3_damp 39 = .ok (.iload_n 2, 1) := by decide +kernel
theorem dX3_damp_40 : decode cX3_damp 40 = .ok (.ireturn, 1) := by decide +kernel
theorem dX3_damp_41 : decode cX3_damp 41 = .ok (.aload_n 0, 1) := by decide +kernel
theorem dX3_damp_42 : decode cX3_damp 42 = .ok (.getfield 16, 3) := by decide +kernel
theorem dX3_damp_45 : decode cX3_damp 45 = .ok (.invokevirtual 215, 3) := by decide +kernel
theorem dX3_damp_48 : decode cX3_damp 48 = .ok (.iinc 2 1, 3) := by decide +kernel
theorem dX3_damp_51 : decode cX3_damp 51 = .ok (.goto (-29), 3) := by decide +kernel
theorem dX3_damp_54 : decode cX3_damp 54 = .ok (.bipush (-3), 2) := by decide +kernel
theorem dX3_damp_56 : decode cX3_damp 56 = .ok (.ireturn, 1) := by decide +kernel
theorem dX3_loss_0 : decode cX3_loss 0 = .ok (.aload_n 0, 1) := by decide +kernel
theorem dX3_loss_1 : decode cX3_loss 1 = .ok (.iload_n 1, 1) := by decide +kernel
theorem dX3_loss_2 : decode cX3_loss 2 = .ok (.invokevirtual 114, 3) := by decide +kernel
theorem dX3_loss_5 : decode cX3_loss 5 = .ok (.ifCond .ne 5, 3) := by decide +kernel
theorem dX3_loss_8 : decode cX3_loss 8 = .ok (.iconst (-1), 1) := by decide +kernel
theorem dX3_loss_9 : decode cX3_loss 9 = .ok (.ireturn, 1) := by decide +kernel
theorem dX3_loss_10 : decode cX3_loss 10 = .ok (.aload_n 0, 1) := by decide +kernel
theorem dX3_loss_11 : decode cX3_loss 11 = .ok (.getfield 16, 3) := by decide +kernel
theorem dX3_loss_14 : decode cX3_loss 14 = .ok (.aload_n 0, 1) := by decide +kernel
theorem dX3_loss_15 : decode cX3_loss 15 = .ok (.getfield 10, 3) := by decide +kernel
theorem dX3_loss_18 : decode cX3_loss 18 = .ok (.invokevirtual 80, 3) := by decide +kernel
theorem dX3_loss_21 : decode cX3_loss 21 = .ok (.iconst 0, 1) := by decide +kernel
theorem dX3_loss_22 : decode cX3_loss 22 = .ok (.istore_n 2, 1) := by decide +kernel
theorem dX3_loss_23 : decode cX3_loss 23 = .ok (.iload_n 2, 1) := by decide +kernel
theorem dX3_loss_24 : decode cX3_loss 24 = .ok (.bipush 60, 2) := by decide +kernel
theorem dX3_loss_26 : decode cX3_loss 26 = .ok (.if_icmp .gt 29, 3) := by decide +kernel
theorem dX3_loss_29 : decode cX3_loss 29 = .ok (.aload_n 0, 1) := by decide +kernel
theorem dX3_loss_30 : decode cX3_loss 30 = .ok (.getfield 16, 3) := by decide +kernel
theorem dX3_loss_33 : decode cX3_loss 33 = .ok (.iload_n 1, 1) := by decide +kernel
theorem dX3_loss_34 : decode cX3_loss 34 = .ok (.invokevirtual 136, 3) := by decide +kernel
theorem dX3_loss_37 : decode cX3_loss 37 = .ok (.ifCond .eq 5, 3) := by decide +kernel
theorem dX3_loss_40 : decode cX3_loss 40 = .ok (.iload_n 2, 1) := by decide +kernel
theorem dX3_loss_41 : decode cX3_loss 41 = .ok (.ireturn, 1) := by decide +kernel
theorem dX3_loss_42 : decode cX3_loss 42 = .ok (.aload_n 0, 1) := by decide +kernel
theorem dX3_loss_43 : decode cX3_loss 43 = .ok (.getfield 16, 3) := by decide +kernel
theorem dX3_loss_46 : decode cX3_loss 46 = .ok (.invokevirtual 215, 3) := by decide +kernel
theorem dX3_loss_49 : decode cX3_loss 49 = .ok (.iinc 2 1, 3) := by decide +kernel
theorem dX3_loss_52 : decode cX3_loss 52 = .ok (.goto (-29), 3) := by decide +kernel
theorem dX3_loss_55 : decode cX3_loss 55 = .ok (.bipush (-3), 2) := by decide +kernel
theorem dX3_loss_57 : decode cX3_loss 57 = .ok (.ireturn, 1) := by decide +kernel
theorem dX3_drowned_0 : decode cX3_drowned 0 = .ok (.aload_n 0, 1) := by decide +kernel
theorem dX3_drowned_1 : decode cX3_drowned 1 = .ok (.getfield 16, 3) := by decide +kernel
theorem dX3_drowned_4 : decode cX3_drowned 4 = .ok (.aload_n 0, 1) := by decide +kernel
theorem dX3_drowned_5 : decode cX3_drowned 5 = .ok (.getfield 10, 3) := by decide +kernel
theorem dX3_drowned_8 : decode cX3_drowned 8 = .ok (.invokevirtual 80, 3) := by decide +kernel
theorem dX3_drowned_11 : decode cX3_drowned 11 = .ok (.iconst 0, 1) := by decide +kernel
theorem dX3_drowned_12 : decode cX3_drowned 12 = .ok (.istore_n 1, 1) := by decide +kernel
theorem dX3_drowned_13 : decode cX3_drowned 13 = .ok (.iload_n 1, 1) := by decide +kernel
theorem dX3_drowned_14 : decode cX3_drowned 14 = .ok (.bipush 60, 2) := by decide +kernel
theorem dX3_drowned_16 : decode cX3_drowned 16 = .ok (.if_icmp .gt 42, 3) := by decide +kernel
theorem dX3_drowned_19 : decode cX3_drowned 19 = .ok (.aload_n 0, 1) := by decide +kernel
theorem dX3_drowned_20 : decode cX3_drowned 20 = .ok (.getfield 16, 3) := by decide +kernel
theorem dX3_drowned_23 : decode cX3_drowned 23 = .ok (.invokevirtual 171, 3) := by decide +kernel
theorem dX3_drowned_26 : decode cX3_drowned 26 = .ok (.aload_n 0, 1) := by decide +kernel
theorem dX3_drowned_27 : decode cX3_drowned 27 = .ok (.getfield 16, 3) := by decide +kernel
theorem dX3_drowned_30 : decode cX3_drowned 30 = .ok (.invokevirtual 167, 3) := by decide +kernel
theorem dX3_drowned_33 : decode cX3_drowned 33 = .ok (.ldc2_w 177, 3) := by decide +kernel
theorem dX3_drowned_36 : decode cX3_drowned 36 = .ok (.lxor, 1) := by decide +kernel
theorem dX3_drowned_37 : decode cX3_drowned 37 = .ok (.land, 1) := by decide +kernel
theorem dX3_drowned_38 : decode cX3_drowned 38 = .ok (.lconst 0, 1) := by decide +kernel
theorem dX3_drowned_39 : decode cX3_drowned 39 = .ok (.lcmp, 1) := by decide +kernel
theorem dX3_drowned_40 : decode cX3_drowned 40 = .ok (.ifCond .ne 5, 3) := by decide +kernel
theorem dX3_drowned_43 : decode cX3_drowned 43 = .ok (.iload_n 1, 1) := by decide +kernel
theorem dX3_drowned_44 : decode cX3_drowned 44 = .ok (.ireturn, 1) := by decide +kernel
theorem dX3_drowned_45 : decode cX3_drowned 45 = .ok (.aload_n 0, 1) := by decide +kernel
theorem dX3_drowned_46 : decode cX3_drowned 46 = .ok (.getfield 16, 3) := by decide +kernel
theorem dX3_drowned_49 : decode cX3_drowned 49 = .ok (.invokevirtual 215, 3) := by decide +kernel
theorem dX3_drowned_52 : decode cX3_drowned 52 = .ok (.iinc 1 1, 3) := by decide +kernel
theorem dX3_drowned_55 : decode cX3_drowned 55 = .ok (.goto (-42), 3) := by decide +kernel
theorem dX3_drowned_58 : decode cX3_drowned 58 = .ok (.bipush (-3), 2) := by decide +kernel
theorem dX3_drowned_60 : decode cX3_drowned 60 = .ok (.ireturn, 1) := by decide +kernel
theorem dX3_whereFor_0 : decode cX3_whereFor 0 = .ok (.aload_n 0, 1) := by decide +kernel
theorem dX3_whereFor_1 : decode cX3_whereFor 1 = .ok (.iload_n 1, 1) := by decide +kernel
theorem dX3_whereFor_2 : decode cX3_whereFor 2 = .ok (.invokevirtual 114, 3) := by decide +kernel
theorem dX3_whereFor_5 : decode cX3_whereFor 5 = .ok (.ifCond .eq 17, 3) := by decide +kernel
theorem dX3_whereFor_8 : decode cX3_whereFor 8 = .ok (.iload_n 2, 1) := by decide +kernel
theorem dX3_whereFor_9 : decode cX3_whereFor 9 = .ok (.invokestatic 107, 3) := by decide +kernel
theorem dX3_whereFor_12 : decode cX3_whereFor 12 = .ok (.ifCond .eq 10, 3) := by decide +kernel
theorem dX3_whereFor_15 : decode cX3_whereFor 15 = .ok (.iload_n 3, 1) := by decide +kernel
theorem dX3_whereFor_16 : decode cX3_whereFor 16 = .ok (.invokestatic 218, 3) := by decide +kernel
theorem dX3_whereFor_19 : decode cX3_whereFor 19 = .ok (.ifCond .ne 5, 3) := by decide +kernel
theorem dX3_whereFor_22 : decode cX3_whereFor 22 = .ok (.iconst (-1), 1) := by decide +kernel
theorem dX3_whereFor_23 : decode cX3_whereFor 23 = .ok (.ireturn, 1) := by decide +kernel
theorem dX3_whereFor_24 : decode cX3_whereFor 24 = .ok (.iconst 0, 1) := by decide +kernel
theorem dX3_whereFor_25 : decode cX3_whereFor 25 = .ok (.istore 4, 2) := by decide +kernel
theorem dX3_whereFor_27 : decode cX3_whereFor 27 = .ok (.iconst (-1), 1) := by decide +kernel
theorem dX3_whereFor_28 : decode cX3_whereFor 28 = .ok (.istore 5, 2) := by decide +kernel
theorem dX3_whereFor_30 : decode cX3_whereFor 30 = .ok (.iconst 0, 1) := by decide +kernel
theorem dX3_whereFor_31 : decode cX3_whereFor 31 = .ok (.istore 6, 2) := by decide +kernel
theorem dX3_whereFor_33 : decode cX3_whereFor 33 = .ok (.iload 6, 2) := by decide +kernel
theorem dX3_whereFor_35 : decode cX3_whereFor 35 = .ok (.bipush 32, 2) := by decide +kernel
theorem dX3_whereFor_37 : decode cX3_whereFor 37 = .ok (.if_icmp .ge 68, 3) := by decide +kernel
theorem dX3_whereFor_40 : decode cX3_whereFor 40 = .ok (.aload_n 0, 1) := by decide +kernel
theorem dX3_whereFor_41 : decode cX3_whereFor 41 = .ok (.getfield 16, 3) := by decide +kernel
theorem dX3_whereFor_44 : decode cX3_whereFor 44 = .ok (.aload_n 0, 1) := by decide +kernel
theorem dX3_whereFor_45 : decode cX3_whereFor 45 = .ok (.getfield 10, 3) := by decide +kernel
theorem dX3_whereFor_48 : decode cX3_whereFor 48 = .ok (.invokevirtual 80, 3) := by decide +kernel
theorem dX3_whereFor_51 : decode cX3_whereFor 51 = .ok (.aload_n 0, 1) := by decide +kernel
theorem dX3_whereFor_52 : decode cX3_whereFor 52 = .ok (.getfield 16, 3) := by decide +kernel
theorem dX3_whereFor_55 : decode cX3_whereFor 55 = .ok (.getfield 126, 3) := by decide +kernel
theorem dX3_whereFor_58 : decode cX3_whereFor 58 = .ok (.iload_n 1, 1) := by decide +kernel
theorem dX3_whereFor_59 : decode cX3_whereFor 59 = .ok (.iload 6, 2) := by decide +kernel
theorem dX3_whereFor_61 : decode cX3_whereFor 61 = .ok (.iastore, 1) := by decide +kernel
theorem dX3_whereFor_62 : decode cX3_whereFor 62 = .ok (.aload_n 0, 1) := by decide +kernel
theorem dX3_whereFor_63 : decode cX3_whereFor 63 = .ok (.getfield 16, 3) := by decide +kernel
theorem dX3_whereFor_66 : decode cX3_whereFor 66 = .ok (.iload_n 3, 1) := by decide +kernel
theorem dX3_whereFor_67 : decode cX3_whereFor 67 = .ok (.invokevirtual 179, 3) := by decide +kernel
theorem dX3_whereFor_70 : decode cX3_whereFor 70 = .ok (.aload_n 0, 1) := by decide +kernel
theorem dX3_whereFor_71 : decode cX3_whereFor 71 = .ok (.getfield 16, 3) := by decide +kernel
theorem dX3_whereFor_74 : decode cX3_whereFor 74 = .ok (.getfield 145, 3) := by decide +kernel
theorem dX3_whereFor_77 : decode cX3_whereFor 77 = .ok (.iload_n 2, 1) := by decide +kernel
theorem dX3_whereFor_78 : decode cX3_whereFor 78 = .ok (.iaload, 1) := by decide +kernel
theorem dX3_whereFor_79 : decode cX3_whereFor 79 = .ok (.iload 5, 2) := by decide +kernel
theorem dX3_whereFor_81 : decode cX3_whereFor 81 = .ok (.if_icmp .le 18, 3) := by decide +kernel
theorem dX3_whereFor_84 : decode cX3_whereFor 84 = .ok (.aload_n 0, 1) := by decide +kernel
theorem dX3_whereFor_85 : decode cX3_whereFor 85 = .ok (.getfield 16, 3) := by decide +kernel
theorem dX3_whereFor_88 : decode cX3_whereFor 88 = .ok (.getfield 145, 3) := by decide +kernel
theorem dX3_whereFor_91 : decode cX3_whereFor 91 = .ok (.iload_n 2, 1) := by decide +kernel
theorem dX3_whereFor_92 : decode cX3_whereFor 92 = .ok (.iaload, 1) := by decide +kernel
theorem dX3_whereFor_93 : decode cX3_whereFor 93 = .ok (.istore 5, 2) := by decide +kernel
theorem dX3_whereFor_95 : decode cX3_whereFor 95 = .ok (.iload 6, 2) := by decide +kernel
theorem dX3_whereFor_97 : decode cX3_whereFor 97 = .ok (.istore 4, 2) := by decide +kernel
theorem dX3_whereFor_99 : decode cX3_whereFor 99 = .ok (.iinc 6 1, 3) := by decide +kernel
theorem dX3_whereFor_102 : decode cX3_whereFor 102 = .ok (.goto (-69), 3) := by decide +kernel
theorem dX3_whereFor_105 : decode cX3_whereFor 105 = .ok (.iload 4, 2) := by decide +kernel
theorem dX3_whereFor_107 : decode cX3_whereFor 107 = .ok (.ireturn, 1) := by decide +kernel
theorem dX3_kindFor_0 : decode cX3_kindFor 0 = .ok (.aload_n 0, 1) := by decide +kernel
theorem dX3_kindFor_1 : decode cX3_kindFor 1 = .ok (.iload_n 1, 1) := by decide +kernel
theorem dX3_kindFor_2 : decode cX3_kindFor 2 = .ok (.invokevirtual 114, 3) := by decide +kernel
theorem dX3_kindFor_5 : decode cX3_kindFor 5 = .ok (.ifCond .eq 17, 3) := by decide +kernel
theorem dX3_kindFor_8 : decode cX3_kindFor 8 = .ok (.iload_n 2, 1) := by decide +kernel
theorem dX3_kindFor_9 : decode cX3_kindFor 9 = .ok (.invokestatic 107, 3) := by decide +kernel
theorem dX3_kindFor_12 : decode cX3_kindFor 12 = .ok (.ifCond .eq 10, 3) := by decide +kernel
theorem dX3_kindFor_15 : decode cX3_kindFor 15 = .ok (.iload_n 3, 1) := by decide +kernel
theorem dX3_kindFor_16 : decode cX3_kindFor 16 = .ok (.invokestatic 218, 3) := by decide +kernel
theorem dX3_kindFor_19 : decode cX3_kindFor 19 = .ok (.ifCond .ne 5, 3) := by decide +kernel
theorem dX3_kindFor_22 : decode cX3_kindFor 22 = .ok (.iconst (-1), 1) := by decide +kernel
theorem dX3_kindFor_23 : decode cX3_kindFor 23 = .ok (.ireturn, 1) := by decide +kernel
theorem dX3_kindFor_24 : decode cX3_kindFor 24 = .ok (.iconst 0, 1) := by decide +kernel
theorem dX3_kindFor_25 : decode cX3_kindFor 25 = .ok (.istore 4, 2) := by decide +kernel
theorem dX3_kindFor_27 : decode cX3_kindFor 27 = .ok (.iconst (-1), 1) := by decide +kernel
theorem dX3_kindFor_28 : decode cX3_kindFor 28 = .ok (.istore 5, 2) := by decide +kernel
theorem dX3_kindFor_30 : decode cX3_kindFor 30 = .ok (.iconst 0, 1) := by decide +kernel
theorem dX3_kindFor_31 : decode cX3_kindFor 31 = .ok (.istore 6, 2) := by decide +kernel
theorem dX3_kindFor_33 : decode cX3_kindFor 33 = .ok (.iload 6, 2) := by decide +kernel
theorem dX3_kindFor_35 : decode cX3_kindFor 35 = .ok (.bipush 6, 2) := by decide +kernel
theorem dX3_kindFor_37 : decode cX3_kindFor 37 = .ok (.if_icmp .ge 68, 3) := by decide +kernel
theorem dX3_kindFor_40 : decode cX3_kindFor 40 = .ok (.aload_n 0, 1) := by decide +kernel
theorem dX3_kindFor_41 : decode cX3_kindFor 41 = .ok (.getfield 16, 3) := by decide +kernel
theorem dX3_kindFor_44 : decode cX3_kindFor 44 = .ok (.aload_n 0, 1) := by decide +kernel
theorem dX3_kindFor_45 : decode cX3_kindFor 45 = .ok (.getfield 10, 3) := by decide +kernel
theorem dX3_kindFor_48 : decode cX3_kindFor 48 = .ok (.invokevirtual 80, 3) := by decide +kernel
theorem dX3_kindFor_51 : decode cX3_kindFor 51 = .ok (.aload_n 0, 1) := by decide +kernel
theorem dX3_kindFor_52 : decode cX3_kindFor 52 = .ok (.getfield 16, 3) := by decide +kernel
theorem dX3_kindFor_55 : decode cX3_kindFor 55 = .ok (.getfield 117, 3) := by decide +kernel
theorem dX3_kindFor_58 : decode cX3_kindFor 58 = .ok (.iload_n 1, 1) := by decide +kernel
theorem dX3_kindFor_59 : decode cX3_kindFor 59 = .ok (.iload 6, 2) := by decide +kernel
theorem dX3_kindFor_61 : decode cX3_kindFor 61 = .ok (.iastore, 1) := by decide +kernel
theorem dX3_kindFor_62 : decode cX3_kindFor 62 = .ok (.aload_n 0, 1) := by decide +kernel
theorem dX3_kindFor_63 : decode cX3_kindFor 63 = .ok (.getfield 16, 3) := by decide +kernel
theorem dX3_kindFor_66 : decode cX3_kindFor 66 = .ok (.iload_n 3, 1) := by decide +kernel
theorem dX3_kindFor_67 : decode cX3_kindFor 67 = .ok (.invokevirtual 179, 3) := by decide +kernel
theorem dX3_kindFor_70 : decode cX3_kindFor 70 = .ok (.aload_n 0, 1) := by decide +kernel
theorem dX3_kindFor_71 : decode cX3_kindFor 71 = .ok (.getfield 16, 3) := by decide +kernel
theorem dX3_kindFor_74 : decode cX3_kindFor 74 = .ok (.getfield 145, 3) := by decide +kernel
theorem dX3_kindFor_77 : decode cX3_kindFor 77 = .ok (.iload_n 2, 1) := by decide +kernel
theorem dX3_kindFor_78 : decode cX3_kindFor 78 = .ok (.iaload, 1) := by decide +kernel
theorem dX3_kindFor_79 : decode cX3_kindFor 79 = .ok (.iload 5, 2) := by decide +kernel
theorem dX3_kindFor_81 : decode cX3_kindFor 81 = .ok (.if_icmp .le 18, 3) := by decide +kernel
theorem dX3_kindFor_84 : decode cX3_kindFor 84 = .ok (.aload_n 0, 1) := by decide +kernel
theorem dX3_kindFor_85 : decode cX3_kindFor 85 = .ok (.getfield 16, 3) := by decide +kernel
theorem dX3_kindFor_88 : decode cX3_kindFor 88 = .ok (.getfield 145, 3) := by decide +kernel
theorem dX3_kindFor_91 : decode cX3_kindFor 91 = .ok (.iload_n 2, 1) := by decide +kernel
theorem dX3_kindFor_92 : decode cX3_kindFor 92 = .ok (.iaload, 1) := by decide +kernel
theorem dX3_kindFor_93 : decode cX3_kindFor 93 = .ok (.istore 5, 2) := by decide +kernel
theorem dX3_kindFor_95 : decode cX3_kindFor 95 = .ok (.iload 6, 2) := by decide +kernel
theorem dX3_kindFor_97 : decode cX3_kindFor 97 = .ok (.istore 4, 2) := by decide +kernel
theorem dX3_kindFor_99 : decode cX3_kindFor 99 = .ok (.iinc 6 1, 3) := by decide +kernel
theorem dX3_kindFor_102 : decode cX3_kindFor 102 = .ok (.goto (-69), 3) := by decide +kernel
theorem dX3_kindFor_105 : decode cX3_kindFor 105 = .ok (.iload 4, 2) := by decide +kernel
theorem dX3_kindFor_107 : decode cX3_kindFor 107 = .ok (.ireturn, 1) := by decide +kernel
theorem dX3_annoyed_0 : decode cX3_annoyed 0 = .ok (.aload_n 0, 1) := by decide +kernel
theorem dX3_annoyed_1 : decode cX3_annoyed 1 = .ok (.iload_n 1, 1) := by decide +kernel
theorem dX3_annoyed_2 : decode cX3_annoyed 2 = .ok (.invokevirtual 114, 3) := by decide +kernel
theorem dX3_annoyed_5 : decode cX3_annoyed 5 = .ok (.ifCond .eq 17, 3) := by decide +kernel
theorem dX3_annoyed_8 : decode cX3_annoyed 8 = .ok (.iload_n 2, 1) := by decide +kernel
theorem dX3_annoyed_9 : decode cX3_annoyed 9 = .ok (.invokestatic 107, 3) := by decide +kernel
theorem dX3_annoyed_12 : decode cX3_annoyed 12 = .ok (.ifCond .eq 10, 3) := by decide +kernel
theorem dX3_annoyed_15 : decode cX3_annoyed 15 = .ok (.iload_n 3, 1) := by decide +kernel
theorem dX3_annoyed_16 : decode cX3_annoyed 16 = .ok (.invokestatic 218, 3) := by decide +kernel
theorem dX3_annoyed_19 : decode cX3_annoyed 19 = .ok (.ifCond .ne 5, 3) := by decide +kernel
theorem dX3_annoyed_22 : decode cX3_annoyed 22 = .ok (.iconst (-1), 1) := by decide +kernel
theorem dX3_annoyed_23 : decode cX3_annoyed 23 = .ok (.ireturn, 1) := by decide +kernel
theorem dX3_annoyed_24 : decode cX3_annoyed 24 = .ok (.iconst 0, 1) := by decide +kernel
theorem dX3_annoyed_25 : decode cX3_annoyed 25 = .ok (.istore 4, 2) := by decide +kernel
theorem dX3_annoyed_27 : decode cX3_annoyed 27 = .ok (.iload 4, 2) := by decide +kernel
theorem dX3_annoyed_29 : decode cX3_annoyed 29 = .ok (.bipush 99, 2) := by decide +kernel
theorem dX3_annoyed_31 : decode cX3_annoyed 31 = .ok (.if_icmp .gt 53, 3) := by decide +kernel
theorem dX3_annoyed_34 : decode cX3_annoyed 34 = .ok (.aload_n 0, 1) := by decide +kernel
theorem dX3_annoyed_35 : decode cX3_annoyed 35 = .ok (.getfield 16, 3) := by decide +kernel
theorem dX3_annoyed_38 : decode cX3_annoyed 38 = .ok (.aload_n 0, 1) := by decide +kernel
theorem dX3_annoyed_39 : decode cX3_annoyed 39 = .ok (.getfield 10, 3) := by decide +kernel
theorem dX3_annoyed_42 : decode cX3_annoyed 42 = .ok (.invokevirtual 80, 3) := by decide +kernel
theorem dX3_annoyed_45 : decode cX3_annoyed 45 = .ok (.aload_n 0, 1) := by decide +kernel
theorem dX3_annoyed_46 : decode cX3_annoyed 46 = .ok (.getfield 16, 3) := by decide +kernel
theorem dX3_annoyed_49 : decode cX3_annoyed 49 = .ok (.getfield 123, 3) := by decide +kernel
theorem dX3_annoyed_52 : decode cX3_annoyed 52 = .ok (.iload_n 1, 1) := by decide +kernel
theorem dX3_annoyed_53 : decode cX3_annoyed 53 = .ok (.iload 4, 2) := by decide +kernel
theorem dX3_annoyed_55 : decode cX3_annoyed 55 = .ok (.iastore, 1) := by decide +kernel
theorem dX3_annoyed_56 : decode cX3_annoyed 56 = .ok (.aload_n 0, 1) := by decide +kernel
theorem dX3_annoyed_57 : decode cX3_annoyed 57 = .ok (.getfield 16, 3) := by decide +kernel
theorem dX3_annoyed_60 : decode cX3_annoyed 60 = .ok (.iload_n 3, 1) := by decide +kernel
theorem dX3_annoyed_61 : decode cX3_annoyed 61 = .ok (.invokevirtual 179, 3) := by decide +kernel
theorem dX3_annoyed_64 : decode cX3_annoyed 64 = .ok (.aload_n 0, 1) := by decide +kernel
theorem dX3_annoyed_65 : decode cX3_annoyed 65 = .ok (.getfield 16, 3) := by decide +kernel
theorem dX3_annoyed_68 : decode cX3_annoyed 68 = .ok (.iload_n 2, 1) := by decide +kernel
theorem dX3_annoyed_69 : decode cX3_annoyed 69 = .ok (.invokevirtual 212, 3) := by decide +kernel
theorem dX3_annoyed_72 : decode cX3_annoyed 72 = .ok (.ifCond .eq 6, 3) := by decide +kernel
theorem dX3_annoyed_75 : decode cX3_annoyed 75 = .ok (.iload 4, 2) := by decide +kernel
theorem dX3_annoyed_77 : decode cX3_annoyed 77 = .ok (.ireturn, 1) := by decide +kernel
theorem dX3_annoyed_78 : decode cX3_annoyed 78 = .ok (.iinc 4 1, 3) := by decide +kernel
theorem dX3_annoyed_81 : decode cX3_annoyed 81 = .ok (.goto (-54), 3) := by decide +kernel
theorem dX3_annoyed_84 : decode cX3_annoyed 84 = .ok (.bipush (-3), 2) := by decide +kernel
theorem dX3_annoyed_86 : decode cX3_annoyed 86 = .ok (.ireturn, 1) := by decide +kernel
theorem dX3_needed_0 : decode cX3_needed 0 = .ok (.iload_n 1, 1) := by decide +kernel
theorem dX3_needed_1 : decode cX3_needed 1 = .ok (.invokestatic 107, 3) := by decide +kernel
theorem dX3_needed_4 : decode cX3_needed 4 = .ok (.ifCond .eq 10, 3) := by decide +kernel
theorem dX3_needed_7 : decode cX3_needed 7 = .ok (.iload_n 2, 1) := by decide +kernel
theorem dX3_needed_8 : decode cX3_needed 8 = .ok (.invokestatic 218, 3) := by decide +kernel
theorem dX3_needed_11 : decode cX3_needed 11 = .ok (.ifCond .ne 5, 3) := by decide +kernel
theorem dX3_needed_14 : decode cX3_needed 14 = .ok (.iconst (-1), 1) := by decide +kernel
theorem dX3_needed_15 : decode cX3_needed 15 = .ok (.ireturn, 1) := by decide +kernel
theorem dX3_needed_16 : decode cX3_needed 16 = .ok (.aload_n 0, 1) := by decide +kernel
theorem dX3_needed_17 : decode cX3_needed 17 = .ok (.iconst 0, 1) := by decide +kernel
theorem dX3_needed_18 : decode cX3_needed 18 = .ok (.iload_n 1, 1) := by decide +kernel
theorem dX3_needed_19 : decode cX3_needed 19 = .ok (.iload_n 2, 1) := by decide +kernel
theorem dX3_needed_20 : decode cX3_needed 20 = .ok (.invokevirtual 221, 3) := by decide +kernel
theorem dX3_needed_23 : decode cX3_needed 23 = .ok (.istore_n 3, 1) := by decide +kernel
theorem dX3_needed_24 : decode cX3_needed 24 = .ok (.bipush (-3), 2) := by decide +kernel
theorem dX3_needed_26 : decode cX3_needed 26 = .ok (.istore 4, 2) := by decide +kernel
theorem dX3_needed_28 : decode cX3_needed 28 = .ok (.iconst 0, 1) := by decide +kernel
theorem dX3_needed_29 : decode cX3_needed 29 = .ok (.istore 5, 2) := by decide +kernel
theorem dX3_needed_31 : decode cX3_needed 31 = .ok (.iload 5, 2) := by decide +kernel
theorem dX3_needed_33 : decode cX3_needed 33 = .ok (.aload_n 0, 1) := by decide +kernel
theorem dX3_needed_34 : decode cX3_needed 34 = .ok (.getfield 10, 3) := by decide +kernel
theorem dX3_needed_37 : decode cX3_needed 37 = .ok (.getfield 87, 3) := by decide +kernel
theorem dX3_needed_40 : decode cX3_needed 40 = .ok (.if_icmp .ge 34, 3) := by decide +kernel
theorem dX3_needed_43 : decode cX3_needed 43 = .ok (.aload_n 0, 1) := by decide +kernel
theorem dX3_needed_44 : decode cX3_needed 44 = .ok (.iconst 1, 1) := by decide +kernel
theorem dX3_needed_45 : decode cX3_needed 45 = .ok (.iload 5, 2) := by decide +kernel
theorem dX3_needed_47 : decode cX3_needed 47 = .ok (.ishl, 1) := by decide +kernel
theorem dX3_needed_48 : decode cX3_needed 48 = .ok (.iload_n 1, 1) := by decide +kernel
theorem dX3_needed_49 : decode cX3_needed 49 = .ok (.iload_n 2, 1) := by decide +kernel
theorem dX3_needed_50 : decode cX3_needed 50 = .ok (.invokevirtual 221, 3) := by decide +kernel
theorem dX3_needed_53 : decode cX3_needed 53 = .ok (.istore 6, 2) := by decide +kernel
theorem dX3_needed_55 : decode cX3_needed 55 = .ok (.iload 6, 2) := by decide +kernel
theorem dX3_needed_57 : decode cX3_needed 57 = .ok (.iload_n 3, 1) := by decide +kernel
theorem dX3_needed_58 : decode cX3_needed 58 = .ok (.if_icmp .ge 10, 3) := by decide +kernel
theorem dX3_needed_61 : decode cX3_needed 61 = .ok (.iload 6, 2) := by decide +kernel
theorem dX3_needed_63 : decode cX3_needed 63 = .ok (.istore_n 3, 1) := by decide +kernel
theorem dX3_needed_64 : decode cX3_needed 64 = .ok (.iload 5, 2) := by decide +kernel
theorem dX3_needed_66 : decode cX3_needed 66 = .ok (.istore 4, 2) := by decide +kernel
theorem dX3_needed_68 : decode cX3_needed 68 = .ok (.iinc 5 1, 3) := by decide +kernel
theorem dX3_needed_71 : decode cX3_needed 71 = .ok (.goto (-40), 3) := by decide +kernel
theorem dX3_needed_74 : decode cX3_needed 74 = .ok (.iload 4, 2) := by decide +kernel
theorem dX3_needed_76 : decode cX3_needed 76 = .ok (.ireturn, 1) := by decide +kernel
theorem dX3_fewest_0 : decode cX3_fewest 0 = .ok (.iload_n 1, 1) := by decide +kernel
theorem dX3_fewest_1 : decode cX3_fewest 1 = .ok (.invokestatic 107, 3) := by decide +kernel
theorem dX3_fewest_4 : decode cX3_fewest 4 = .ok (.ifCond .eq 10, 3) := by decide +kernel
theorem dX3_fewest_7 : decode cX3_fewest 7 = .ok (.iload_n 2, 1) := by decide +kernel
theorem dX3_fewest_8 : decode cX3_fewest 8 = .ok (.invokestatic 218, 3) := by decide +kernel
theorem dX3_fewest_11 : decode cX3_fewest 11 = .ok (.ifCond .ne 5, 3) := by decide +kernel
theorem dX3_fewest_14 : decode cX3_fewest 14 = .ok (.iconst (-1), 1) := by decide +kernel
theorem dX3_fewest_15 : decode cX3_fewest 15 = .ok (.ireturn, 1) := by decide +kernel
theorem dX3_fewest_16 : decode cX3_fewest 16 = .ok (.iconst 1, 1) := by decide +kernel
theorem dX3_fewest_17 : decode cX3_fewest 17 = .ok (.aload_n 0, 1) := by decide +kernel
theorem dX3_fewest_18 : decode cX3_fewest 18 = .ok (.getfield 10, 3) := by decide +kernel
theorem dX3_fewest_21 : decode cX3_fewest 21 = .ok (.getfield 87, 3) := by decide +kernel
theorem dX3_fewest_24 : decode cX3_fewest 24 = .ok (.ishl, 1) := by decide +kernel
theorem dX3_fewest_25 : decode cX3_fewest 25 = .ok (.iconst 1, 1) := by decide +kernel
theorem dX3_fewest_26 : decode cX3_fewest 26 = .ok (.isub, 1) := by decide +kernel
theorem dX3_fewest_27 : decode cX3_fewest 27 = .ok (.istore_n 3, 1) := by decide +kernel
theorem dX3_fewest_28 : decode cX3_fewest 28 = .ok (.bipush (-3), 2) := by decide +kernel
theorem dX3_fewest_30 : decode cX3_fewest 30 = .ok (.istore 4, 2) := by decide +kernel
theorem dX3_fewest_32 : decode cX3_fewest 32 = .ok (.bipush 9, 2) := by decide +kernel
theorem dX3_fewest_34 : decode cX3_fewest 34 = .ok (.istore 5, 2) := by decide +kernel
theorem dX3_fewest_36 : decode cX3_fewest 36 = .ok (.iconst 0, 1) := by decide +kernel
theorem dX3_fewest_37 : decode cX3_fewest 37 = .ok (.istore 6, 2) := by decide +kernel
theorem dX3_fewest_39 : decode cX3_fewest 39 = .ok (.iload 6, 2) := by decide +kernel
theorem dX3_fewest_41 : decode cX3_fewest 41 = .ok (.iload_n 3, 1) := by decide +kernel
theorem dX3_fewest_42 : decode cX3_fewest 42 = .ok (.if_icmp .gt 47, 3) := by decide +kernel
theorem dX3_fewest_45 : decode cX3_fewest 45 = .ok (.iload 6, 2) := by decide +kernel
theorem dX3_fewest_47 : decode cX3_fewest 47 = .ok (.invokestatic 196, 3) := by decide +kernel
theorem dX3_fewest_50 : decode cX3_fewest 50 = .ok (.iload 5, 2) := by decide +kernel
theorem dX3_fewest_52 : decode cX3_fewest 52 = .ok (.if_icmp .ge 31, 3) := by decide +kernel
theorem dX3_fewest_55 : decode cX3_fewest 55 = .ok (.aload_n 0, 1) := by decide +kernel
theorem dX3_fewest_56 : decode cX3_fewest 56 = .ok (.iload_n 3, 1) := by decide +kernel
theorem dX3_fewest_57 : decode cX3_fewest 57 = .ok (.iload 6, 2) := by decide +kernel
theorem dX3_fewest_59 : decode cX3_fewest 59 = .ok (.iconst (-1), 1) := by decide +kernel
theorem dX3_fewest_60 : decode cX3_fewest 60 = .ok (.ixor, 1) := by decide +kernel
theorem dX3_fewest_61 : decode cX3_fewest 61 = .ok (.iand, 1) := by decide +kernel
theorem dX3_fewest_62 : decode cX3_fewest 62 = .ok (.iload_n 1, 1) := by decide +kernel
theorem dX3_fewest_63 : decode cX3_fewest 63 = .ok (.iload_n 2, 1) := by decide +kernel
theorem dX3_fewest_64 : decode cX3_fewest 64 = .ok (.invokevirtual 221, 3) := by decide +kernel
theorem dX3_fewest_67 : decode cX3_fewest 67 = .ok (.bipush 10, 2) := by decide +kernel
theorem dX3_fewest_69 : decode cX3_fewest 69 = .ok (.if_icmp .lt 14, 3) := by decide +kernel
theorem dX3_fewest_72 : decode cX3_fewest 72 = .ok (.iload 6, 2) := by decide +kernel
theorem dX3_fewest_74 : decode cX3_fewest 74 = .ok (.invokestatic 196, 3) := by decide +kernel
theorem dX3_fewest_77 : decode cX3_fewest 77 = .ok (.istore 5, 2) := by decide +kernel
theorem dX3_fewest_79 : decode cX3_fewest 79 = .ok (.iload 6, 2) := by decide +kernel
theorem dX3_fewest_81 : decode cX3_fewest 81 = .ok (.istore 4, 2) := by decide +kernel
theorem dX3_fewest_83 : decode cX3_fewest 83 = .ok (.iinc 6 1, 3) := by decide +kernel
theorem dX3_fewest_86 : decode cX3_fewest 86 = .ok (.goto (-47), 3) := by decide +kernel
theorem dX3_fewest_89 : decode cX3_fewest 89 = .ok (.iload 4, 2) := by decide +kernel
theorem dX3_fewest_91 : decode cX3_fewest 91 = .ok (.ireturn, 1) := by decide +kernel
theorem dX3_ends_0 : decode cX3_ends 0 = .ok (.iload_n 1, 1) := by decide +kernel
theorem dX3_ends_1 : decode cX3_ends 1 = .ok (.invokestatic 107, 3) := by decide +kernel
theorem dX3_ends_4 : decode cX3_ends 4 = .ok (.ifCond .ne 5, 3) := by decide +kernel
theorem dX3_ends_7 : decode cX3_ends 7 = .ok (.iconst (-1), 1) := by decide +kernel
theorem dX3_ends_8 : decode cX3_ends 8 = .ok (.ireturn, 1) := by decide +kernel
theorem dX3_ends_9 : decode cX3_ends 9 = .ok (.iload_n 1, 1) := by decide +kernel
theorem dX3_ends_10 : decode cX3_ends 10 = .ok (.istore_n 2, 1) := by decide +kernel
theorem dX3_ends_11 : decode cX3_ends 11 = .ok (.iconst 0, 1) := by decide +kernel
theorem dX3_ends_12 : decode cX3_ends 12 = .ok (.istore_n 3, 1) := by decide +kernel
theorem dX3_ends_13 : decode cX3_ends 13 = .ok (.iload_n 3, 1) := by decide +kernel
theorem dX3_ends_14 : decode cX3_ends 14 = .ok (.bipush 32, 2) := by decide +kernel
theorem dX3_ends_16 : decode cX3_ends 16 = .ok (.if_icmp .ge 31, 3) := by decide +kernel
theorem dX3_ends_19 : decode cX3_ends 19 = .ok (.aload_n 0, 1) := by decide +kernel
theorem dX3_ends_20 : decode cX3_ends 20 = .ok (.getfield 10, 3) := by decide +kernel
theorem dX3_ends_23 : decode cX3_ends 23 = .ok (.getfield 160, 3) := by decide +kernel
theorem dX3_ends_26 : decode cX3_ends 26 = .ok (.iload_n 2, 1) := by decide +kernel
theorem dX3_ends_27 : decode cX3_ends 27 = .ok (.iaload, 1) := by decide +kernel
theorem dX3_ends_28 : decode cX3_ends 28 = .ok (.ifCond .lt 19, 3) := by decide +kernel
theorem dX3_ends_31 : decode cX3_ends 31 = .ok (.aload_n 0, 1) := by decide +kernel
theorem dX3_ends_32 : decode cX3_ends 32 = .ok (.getfield 10, 3) := by decide +kernel
theorem dX3_ends_35 : decode cX3_ends 35 = .ok (.getfield 160, 3) := by decide +kernel
theorem dX3_ends_38 : decode cX3_ends 38 = .ok (.iload_n 2, 1) := by decide +kernel
theorem dX3_ends_39 : decode cX3_ends 39 = .ok (.iaload, 1) := by decide +kernel
theorem dX3_ends_40 : decode cX3_ends 40 = .ok (.istore_n 2, 1) := by decide +kernel
theorem dX3_ends_41 : decode cX3_ends 41 = .ok (.iinc 3 1, 3) := by decide +kernel
theorem dX3_ends_44 : decode cX3_ends 44 = .ok (.goto (-31), 3) := by decide +kernel
theorem dX3_ends_47 : decode cX3_ends 47 = .ok (.iload_n 2, 1) := by decide +kernel
theorem dX3_ends_48 : decode cX3_ends 48 = .ok (.ireturn, 1) := by decide +kernel
theorem dX3_fits_0 : decode cX3_fits 0 = .ok (.iload_n 1, 1) := by decide +kernel
theorem dX3_fits_1 : decode cX3_fits 1 = .ok (.invokestatic 225, 3) := by decide +kernel
theorem dX3_fits_4 : decode cX3_fits 4 = .ok (.ifCond .eq 27, 3) := by decide +kernel
theorem dX3_fits_7 : decode cX3_fits 7 = .ok (.iload_n 2, 1) := by decide +kernel
theorem dX3_fits_8 : decode cX3_fits 8 = .ok (.invokestatic 107, 3) := by decide +kernel
theorem dX3_fits_11 : decode cX3_fits 11 = .ok (.ifCond .eq 20, 3) := by decide +kernel
theorem dX3_fits_14 : decode cX3_fits 14 = .ok (.aload_n 0, 1) := by decide +kernel
theorem dX3_fits_15 : decode cX3_fits 15 = .ok (.iload_n 3, 1) := by decide +kernel
theorem dX3_fits_16 : decode cX3_fits 16 = .ok (.invokevirtual 114, 3) := by decide +kernel
theorem dX3_fits_19 : decode cX3_fits 19 = .ok (.ifCond .eq 12, 3) := by decide +kernel
theorem dX3_fits_22 : decode cX3_fits 22 = .ok (.iload 4, 2) := by decide +kernel
theorem dX3_fits_24 : decode cX3_fits 24 = .ok (.iconst 1, 1) := by decide +kernel
theorem dX3_fits_25 : decode cX3_fits 25 = .ok (.invokestatic 97, 3) := by decide +kernel
theorem dX3_fits_28 : decode cX3_fits 28 = .ok (.ifCond .ne 5, 3) := by decide +kernel
theorem dX3_fits_31 : decode cX3_fits 31 = .ok (.iconst (-1), 1) := by decide +kernel
theorem dX3_fits_32 : decode cX3_fits 32 = .ok (.ireturn, 1) := by decide +kernel
theorem dX3_fits_33 : decode cX3_fits 33 = .ok (.aload_n 0, 1) := by decide +kernel
theorem dX3_fits_34 : decode cX3_fits 34 = .ok (.getfield 34, 3) := by decide +kernel
theorem dX3_fits_37 : decode cX3_fits 37 = .ok (.iload_n 1, 1) := by decide +kernel
theorem dX3_fits_38 : decode cX3_fits 38 = .ok (.iaload, 1) := by decide +kernel
theorem dX3_fits_39 : decode cX3_fits 39 = .ok (.iconst (-1), 1) := by decide +kernel
theorem dX3_fits_40 : decode cX3_fits 40 = .ok (.if_icmp .ne 6, 3) := by decide +kernel
theorem dX3_fits_43 : decode cX3_fits 43 = .ok (.bipush (-11), 2) := by decide +kernel
theorem dX3_fits_45 : decode cX3_fits 45 = .ok (.ireturn, 1) := by decide +kernel
theorem dX3_fits_46 : decode cX3_fits 46 = .ok (.iconst 0, 1) := by decide +kernel
theorem dX3_fits_47 : decode cX3_fits 47 = .ok (.istore 5, 2) := by decide +kernel
theorem dX3_fits_49 : decode cX3_fits 49 = .ok (.bipush (-3), 2) := by decide +kernel
theorem dX3_fits_51 : decode cX3_fits 51 = .ok (.istore 6, 2) := by decide +kernel
theorem dX3_fits_53 : decode cX3_fits 53 = .ok (.bipush 99, 2) := by decide +kernel
theorem dX3_fits_55 : decode cX3_fits 55 = .ok (.istore 7, 2) := by decide +kernel
theorem dX3_fits_57 : decode cX3_fits 57 = .ok (.iload 7, 2) := by decide +kernel
theorem dX3_fits_59 : decode cX3_fits 59 = .ok (.ifCond .lt 28, 3) := by decide +kernel
theorem dX3_fits_62 : decode cX3_fits 62 = .ok (.aload_n 0, 1) := by decide +kernel
theorem dX3_fits_63 : decode cX3_fits 63 = .ok (.iload 7, 2) := by decide +kernel
theorem dX3_fits_65 : decode cX3_fits 65 = .ok (.iload_n 3, 1) := by decide +kernel
theorem dX3_fits_66 : decode cX3_fits 66 = .ok (.iload_n 2, 1) := by decide +kernel
theorem dX3_fits_67 : decode cX3_fits 67 = .ok (.iload_n 1, 1) := by decide +kernel
theorem dX3_fits_68 : decode cX3_fits 68 = .ok (.invokevirtual 228, 3) := by decide +kernel
theorem dX3_fits_71 : decode cX3_fits 71 = .ok (.ifCond .eq 10, 3) := by decide +kernel
theorem dX3_fits_74 : decode cX3_fits 74 = .ok (.iinc 5 1, 3) := by decide +kernel
theorem dX3_fits_77 : decode cX3_fits 77 = .ok (.iload 7, 2) := by decide +kernel
theorem dX3_fits_79 : decode cX3_fits 79 = .ok (.istore 6, 2) := by decide +kernel
theorem dX3_fits_81 : decode cX3_fits 81 = .ok (.iinc 7 (-1), 3) := by decide +kernel
theorem dX3_fits_84 : decode cX3_fits 84 = .ok (.goto (-27), 3) := by decide +kernel
theorem dX3_fits_87 : decode cX3_fits 87 = .ok (.iload 4, 2) := by decide +kernel
theorem dX3_fits_89 : decode cX3_fits 89 = .ok (.ifCond .ne 8, 3) := by decide +kernel
theorem dX3_fits_92 : decode cX3_fits 92 = .ok (.iload 5, 2) := by decide +kernel
theorem dX3_fits_94 : decode cX3_fits 94 = .ok (.goto 5, 3) := by decide +kernel
theorem dX3_fits_97 : decode cX3_fits 97 = .ok (.iload 6, 2) := by decide +kernel
theorem dX3_fits_99 : decode cX3_fits 99 = .ok (.ireturn, 1) := by decide +kernel
theorem dX3_odds_0 : decode cX3_odds 0 = .ok (.iload_n 1, 1) := by decide +kernel
theorem dX3_odds_1 : decode cX3_odds 1 = .ok (.bipush 8, 2) := by decide +kernel
theorem dX3_odds_3 : decode cX3_odds 3 = .ok (.invokestatic 97, 3) := by decide +kernel
theorem dX3_odds_6 : decode cX3_odds 6 = .ok (.ifCond .eq 19, 3) := by decide +kernel
theorem dX3_odds_9 : decode cX3_odds 9 = .ok (.iload_n 2, 1) := by decide +kernel
theorem dX3_odds_10 : decode cX3_odds 10 = .ok (.iload_n 1, 1) := by decide +kernel
theorem dX3_odds_11 : decode cX3_odds 11 = .ok (.invokestatic 97, 3) := by decide +kernel
theorem dX3_odds_14 : decode cX3_odds 14 = .ok (.ifCond .eq 11, 3) := by decide +kernel
theorem dX3_odds_17 : decode cX3_odds 17 = .ok (.iload_n 3, 1) := by decide +kernel
theorem dX3_odds_18 : decode cX3_odds 18 = .ok (.iconst 1, 1) := by decide +kernel
theorem dX3_odds_19 : decode cX3_odds 19 = .ok (.invokestatic 97, 3) := by decide +kernel
theorem dX3_odds_22 : decode cX3_odds 22 = .ok (.ifCond .ne 7, 3) := by decide +kernel
theorem dX3_odds_25 : decode cX3_odds 25 = .ok (.ldc2_w 177, 3) := by decide +kernel
theorem dX3_odds_28 : decode cX3_odds 28 = .ok (.lreturn, 1) := by decide +kernel
theorem dX3_odds_29 : decode cX3_odds 29 = .ok (.lconst 1, 1) := by decide +kernel
theorem dX3_odds_30 : decode cX3_odds 30 = .ok (.lstore 4, 2) := by decide +kernel
theorem dX3_odds_32 : decode cX3_odds 32 = .ok (.lconst 1, 1) := by decide +kernel
theorem dX3_odds_33 : decode cX3_odds 33 = .ok (.lstore 6, 2) := by decide +kernel
theorem dX3_odds_35 : decode cX3_odds 35 = .ok (.iconst 0, 1) := by decide +kernel
theorem dX3_odds_36 : decode cX3_odds 36 = .ok (.istore 8, 2) := by decide +kernel
theorem dX3_odds_38 : decode cX3_odds 38 = .ok (.iload 8, 2) := by decide +kernel
theorem dX3_odds_40 : decode cX3_odds 40 = .ok (.iload_n 2, 1) := by decide +kernel
theorem dX3_odds_41 : decode cX3_odds 41 = .ok (.if_icmp .ge 25, 3) := by decide +kernel
theorem dX3_odds_44 : decode cX3_odds 44 = .ok (.lload 4, 2) := by decide +kernel
theorem dX3_odds_46 : decode cX3_odds 46 = .ok (.iload_n 1, 1) := by decide +kernel
theorem dX3_odds_47 : decode cX3_odds 47 = .ok (.iload 8, 2) := by decide +kernel
theorem dX3_odds_49 : decode cX3_odds 49 = .ok (.isub, 1) := by decide +kernel
theorem dX3_odds_50 : decode cX3_odds 50 = .ok (.i2l, 1) := by decide +kernel
theorem dX3_odds_51 : decode cX3_odds 51 = .ok (.lmul, 1) := by decide +kernel
theorem dX3_odds_52 : decode cX3_odds 52 = .ok (.iload 8, 2) := by decide +kernel
theorem dX3_odds_54 : decode cX3_odds 54 = .ok (.iconst 1, 1) := by decide +kernel
theorem dX3_odds_55 : decode cX3_odds 55 = .ok (.iadd, 1) := by decide +kernel
theorem dX3_odds_56 : decode cX3_odds 56 = .ok (.i2l, 1) := by decide +kernel
theorem dX3_odds_57 : decode cX3_odds 57 = .ok (.ldiv, 1) := by decide +kernel
theorem dX3_odds_58 : decode cX3_odds 58 = .ok (.lstore 4, 2) := by decide +kernel
theorem dX3_odds_60 : decode cX3_odds 60 = .ok (.iinc 8 1, 3) := by decide +kernel
theorem dX3_odds_63 : decode cX3_odds 63 = .ok (.goto (-25), 3) := by decide +kernel
theorem dX3_odds_66 : decode cX3_odds 66 = .ok (.iconst 0, 1) := by decide +kernel
theorem dX3_odds_67 : decode cX3_odds 67 = .ok (.istore 8, 2) := by decide +kernel
theorem dX3_odds_69 : decode cX3_odds 69 = .ok (.iload 8, 2) := by decide +kernel
theorem dX3_odds_71 : decode cX3_odds 71 = .ok (.iload_n 1, 1) := by decide +kernel
theorem dX3_odds_72 : decode cX3_odds 72 = .ok (.if_icmp .ge 54, 3) := by decide +kernel
theorem dX3_odds_75 : decode cX3_odds 75 = .ok (.lload 4, 2) := by decide +kernel
theorem dX3_odds_77 : decode cX3_odds 77 = .ok (.iload 8, 2) := by decide +kernel
theorem dX3_odds_79 : decode cX3_odds 79 = .ok (.iload_n 2, 1) := by decide +kernel
theorem dX3_odds_80 : decode cX3_odds 80 = .ok (.if_icmp .ge 16, 3) := by decide +kernel
theorem dX3_odds_83 : decode cX3_odds 83 = .ok (.aload_n 0, 1) := by decide +kernel
theorem dX3_odds_84 : decode cX3_odds 84 = .ok (.getfield 10, 3) := by decide +kernel
theorem dX3_odds_87 : decode cX3_odds 87 = .ok (.getfield 101, 3) := by decide +kernel
theorem dX3_odds_90 : decode cX3_odds 90 = .ok (.iconst 3, 1) := by decide +kernel
theorem dX3_odds_91 : decode cX3_odds 91 = .ok (.iaload, 1) := by decide +kernel
theorem dX3_odds_92 : decode cX3_odds 92 = .ok (.i2l, 1) := by decide +kernel
theorem dX3_odds_93 : decode cX3_odds 93 = .ok (.goto 16, 3) := by decide +kernel
theorem dX3_odds_96 : decode cX3_odds 96 = .ok (.bipush 100, 2) := by decide +kernel
theorem dX3_odds_98 : decode cX3_odds 98 = .ok (.aload_n 0, 1) := by decide +kernel
theorem dX3_odds_99 : decode cX3_odds 99 = .ok (.getfield 10, 3) := by decide +kernel
theorem dX3_odds_102 : decode cX3_odds 102 = .ok (.getfield 101, 3) := by decide +kernel
theorem dX3_odds_105 : decode cX3_odds 105 = .ok (.iconst 3, 1) := by decide +kernel
theorem dX3_odds_106 : decode cX3_odds 106 = .ok (.iaload, 1) := by decide +kernel
theorem dX3_odds_107 : decode cX3_odds 107 = .ok (.isub, 1) := by decide +kernel
theorem dX3_odds_108 : decode cX3_odds 108 = .ok (.i2l, 1) := by decide +kernel
theorem dX3_odds_109 : decode cX3_odds 109 = .ok (.lmul, 1) := by decide +kernel
theorem dX3_odds_110 : decode cX3_odds 110 = .ok (.lstore 4, 2) := by decide +kernel
theorem dX3_odds_112 : decode cX3_odds 112 = .ok (.lload 6, 2) := by decide +kernel
theorem dX3_odds_114 : decode cX3_odds 114 = .ok (.ldc2_w 232, 3) := by decide +kernel
theorem dX3_odds_117 : decode cX3_odds 117 = .ok (.lmul, 1) := by decide +kernel
theorem dX3_odds_118 : decode cX3_odds 118 = .ok (.lstore 6, 2) := by decide +kernel
theorem dX3_odds_120 : decode cX3_odds 120 = .ok (.iinc 8 1, 3) := by decide +kernel
theorem dX3_odds_123 : decode cX3_odds 123 = .ok (.goto (-54), 3) := by decide +kernel
theorem dX3_odds_126 : decode cX3_odds 126 = .ok (.lload 4, 2) := by decide +kernel
theorem dX3_odds_128 : decode cX3_odds 128 = .ok (.lload 6, 2) := by decide +kernel
theorem dX3_odds_130 : decode cX3_odds 130 = .ok (.iload_n 3, 1) := by decide +kernel
theorem dX3_odds_131 : decode cX3_odds 131 = .ok (.invokestatic 234, 3) := by decide +kernel
theorem dX3_odds_134 : decode cX3_odds 134 = .ok (.lreturn, 1) := by decide +kernel
theorem dX3_hope_0 : decode cX3_hope 0 = .ok (.iload_n 1, 1) := by decide +kernel
theorem dX3_hope_1 : decode cX3_hope 1 = .ok (.bipush 99, 2) := by decide +kernel
theorem dX3_hope_3 : decode cX3_hope 3 = .ok (.invokestatic 97, 3) := by decide +kernel
theorem dX3_hope_6 : decode cX3_hope 6 = .ok (.ifCond .eq 11, 3) := by decide +kernel
theorem dX3_hope_9 : decode cX3_hope 9 = .ok (.iload_n 2, 1) := by decide +kernel
theorem dX3_hope_10 : decode cX3_hope 10 = .ok (.iconst 1, 1) := by decide +kernel
theorem dX3_hope_11 : decode cX3_hope 11 = .ok (.invokestatic 97, 3) := by decide +kernel
theorem dX3_hope_14 : decode cX3_hope 14 = .ok (.ifCond .ne 7, 3) := by decide +kernel
theorem dX3_hope_17 : decode cX3_hope 17 = .ok (.ldc2_w 177, 3) := by decide +kernel
theorem dX3_hope_20 : decode cX3_hope 20 = .ok (.lreturn, 1) := by decide +kernel
theorem dX3_hope_21 : decode cX3_hope 21 = .ok (.iload_n 1, 1) := by decide +kernel
theorem dX3_hope_22 : decode cX3_hope 22 = .ok (.i2l, 1) := by decide +kernel
theorem dX3_hope_23 : decode cX3_hope 23 = .ok (.aload_n 0, 1) := by decide +kernel
theorem dX3_hope_24 : decode cX3_hope 24 = .ok (.getfield 10, 3) := by decide +kernel
theorem dX3_hope_27 : decode cX3_hope 27 = .ok (.getfield 101, 3) := by decide +kernel
theorem dX3_hope_30 : decode cX3_hope 30 = .ok (.iconst 3, 1) := by decide +kernel
theorem dX3_hope_31 : decode cX3_hope 31 = .ok (.iaload, 1) := by decide +kernel
theorem dX3_hope_32 : decode cX3_hope 32 = .ok (.i2l, 1) := by decide +kernel
theorem dX3_hope_33 : decode cX3_hope 33 = .ok (.lmul, 1) := by decide +kernel
theorem dX3_hope_34 : decode cX3_hope 34 = .ok (.ldc2_w 232, 3) := by decide +kernel
theorem dX3_hope_37 : decode cX3_hope 37 = .ok (.iload_n 2, 1) := by decide +kernel
theorem dX3_hope_38 : decode cX3_hope 38 = .ok (.invokestatic 234, 3) := by decide +kernel
theorem dX3_hope_41 : decode cX3_hope 41 = .ok (.lreturn, 1) := by decide +kernel
theorem dX3_prove_0 : decode cX3_prove 0 = .ok (.aload_n 0, 1) := by decide +kernel
theorem dX3_prove_1 : decode cX3_prove 1 = .ok (.iload_n 1, 1) := by decide +kernel
theorem dX3_prove_2 : decode cX3_prove 2 = .ok (.invokevirtual 114, 3) := by decide +kernel
theorem dX3_prove_5 : decode cX3_prove 5 = .ok (.ifCond .eq 14, 3) := by decide +kernel
theorem dX3_prove_8 : decode cX3_prove 8 = .ok (.iload_n 2, 1) := by decide +kernel
theorem dX3_prove_9 : decode cX3_prove 9 = .ok (.iconst 1, 1) := by decide +kernel
theorem dX3_prove_10 : decode cX3_prove 10 = .ok (.if_icmp .lt 9, 3) := by decide +kernel
theorem dX3_prove_13 : decode cX3_prove 13 = .ok (.iload_n 2, 1) := by decide +kernel
theorem dX3_prove_14 : decode cX3_prove 14 = .ok (.bipush 10, 2) := by decide +kernel
theorem dX3_prove_16 : decode cX3_prove 16 = .ok (.if_icmp .le 5, 3) := by decide +kernel
theorem dX3_prove_19 : decode cX3_prove 19 = .ok (.iconst (-1), 1) := by decide +kernel
theorem dX3_prove_20 : decode cX3_prove 20 = .ok (.ireturn, 1) := by decide +kernel
theorem dX3_prove_21 : decode cX3_prove 21 = .ok (.aload_n 0, 1) := by decide +kernel
theorem dX3_prove_22 : decode cX3_prove 22 = .ok (.getfield 16, 3) := by decide +kernel
theorem dX3_prove_25 : decode cX3_prove 25 = .ok (.aload_n 0, 1) := by decide +kernel
theorem dX3_prove_26 : decode cX3_prove 26 = .ok (.getfield 10, 3) := by decide +kernel
theorem dX3_prove_29 : decode cX3_prove 29 = .ok (.invokevirtual 80, 3) := by decide +kernel
theorem dX3_prove_32 : decode cX3_prove 32 = .ok (.iconst 0, 1) := by decide +kernel
theorem dX3_prove_33 : decode cX3_prove 33 = .ok (.istore_n 3, 1) := by decide +kernel
theorem dX3_prove_34 : decode cX3_prove 34 = .ok (.iload_n 3, 1) := by decide +kernel
theorem dX3_prove_35 : decode cX3_prove 35 = .ok (.iload_n 2, 1) := by decide +kernel
theorem dX3_prove_36 : decode cX3_prove 36 = .ok (.if_icmp .ge 50, 3) := by decide +kernel
theorem dX3_prove_39 : decode cX3_prove 39 = .ok (.aload_n 0, 1) := by decide +kernel
theorem dX3_prove_40 : decode cX3_prove 40 = .ok (.getfield 16, 3) := by decide +kernel
theorem dX3_prove_43 : decode cX3_prove 43 = .ok (.invokevirtual 215, 3) := by decide +kernel
theorem dX3_prove_46 : decode cX3_prove 46 = .ok (.iconst 0, 1) := by decide +kernel
theorem dX3_prove_47 : decode cX3_prove 47 = .ok (.istore 4, 2) := by decide +kernel
theorem dX3_prove_49 : decode cX3_prove 49 = .ok (.iload 4, 2) := by decide +kernel
theorem dX3_prove_51 : decode cX3_prove 51 = .ok (.iconst 3, 1) := by decide +kernel
theorem dX3_prove_52 : decode cX3_prove 52 = .ok (.if_icmp .ge 28, 3) := by decide +kernel
theorem dX3_prove_55 : decode cX3_prove 55 = .ok (.aload_n 0, 1) := by decide +kernel
theorem dX3_prove_56 : decode cX3_prove 56 = .ok (.getfield 31, 3) := by decide +kernel
theorem dX3_prove_59 : decode cX3_prove 59 = .ok (.iload_n 3, 1) := by decide +kernel
theorem dX3_prove_60 : decode cX3_prove 60 = .ok (.aaload, 1) := by decide +kernel
theorem dX3_prove_61 : decode cX3_prove 61 = .ok (.iload 4, 2) := by decide +kernel
theorem dX3_prove_63 : decode cX3_prove 63 = .ok (.aload_n 0, 1) := by decide +kernel
theorem dX3_prove_64 : decode cX3_prove 64 = .ok (.getfield 16, 3) := by decide +kernel
theorem dX3_prove_67 : decode cX3_prove 67 = .ok (.iload_n 1, 1) := by decide +kernel
theorem dX3_prove_68 : decode cX3_prove 68 = .ok (.iload 4, 2) := by decide +kernel
theorem dX3_prove_70 : decode cX3_prove 70 = .ok (.invokevirtual 238, 3) := by decide +kernel
theorem dX3_prove_73 : decode cX3_prove 73 = .ok (.iastore, 1) := by decide +kernel
theorem dX3_prove_74 : decode cX3_prove 74 = .ok (.iinc 4 1, 3) := by decide +kernel
theorem dX3_prove_77 : decode cX3_prove 77 = .ok (.goto (-28), 3) := by decide +kernel
theorem dX3_prove_80 : decode cX3_prove 80 = .ok (.iinc 3 1, 3) := by decide +kernel
theorem dX3_prove_83 : decode cX3_prove 83 = .ok (.goto (-49), 3) := by decide +kernel
theorem dX3_prove_86 : decode cX3_prove 86 = .ok (.aload_n 0, 1) := by decide +kernel
theorem dX3_prove_87 : decode cX3_prove 87 = .ok (.iload_n 2, 1) := by decide +kernel
theorem dX3_prove_88 : decode cX3_prove 88 = .ok (.putfield 84, 3) := by decide +kernel
theorem dX3_prove_91 : decode cX3_prove 91 = .ok (.iload_n 2, 1) := by decide +kernel
theorem dX3_prove_92 : decode cX3_prove 92 = .ok (.ireturn, 1) := by decide +kernel
theorem dX3_row_0 : decode cX3_row 0 = .ok (.aload_n 0, 1) := by decide +kernel
theorem dX3_row_1 : decode cX3_row 1 = .ok (.iload_n 1, 1) := by decide +kernel
theorem dX3_row_2 : decode cX3_row 2 = .ok (.iload_n 2, 1) := by decide +kernel
theorem dX3_row_3 : decode cX3_row 3 = .ok (.invokevirtual 242, 3) := by decide +kernel
theorem dX3_row_6 : decode cX3_row 6 = .ok (.ifCond .eq 14, 3) := by decide +kernel
theorem dX3_row_9 : decode cX3_row 9 = .ok (.aload_n 0, 1) := by decide +kernel
theorem dX3_row_10 : decode cX3_row 10 = .ok (.getfield 31, 3) := by decide +kernel
theorem dX3_row_13 : decode cX3_row 13 = .ok (.iload_n 1, 1) := by decide +kernel
theorem dX3_row_14 : decode cX3_row 14 = .ok (.aaload, 1) := by decide +kernel
theorem dX3_row_15 : decode cX3_row 15 = .ok (.iload_n 2, 1) := by decide +kernel
theorem dX3_row_16 : decode cX3_row 16 = .ok (.iaload, 1) := by decide +kernel
theorem dX3_row_17 : decode cX3_row 17 = .ok (.goto 5, 3) := by decide +kernel
theorem dX3_row_20 : decode cX3_row 20 = .ok (.bipush (-9), 2) := by decide +kernel
theorem dX3_row_22 : decode cX3_row 22 = .ok (.ireturn, 1) := by decide +kernel
theorem dX3_alterRow_0 : decode cX3_alterRow 0 = .ok (.aload_n 0, 1) := by decide +kernel
theorem dX3_alterRow_1 : decode cX3_alterRow 1 = .ok (.iload_n 1, 1) := by decide +kernel
theorem dX3_alterRow_2 : decode cX3_alterRow 2 = .ok (.iload_n 2, 1) := by decide +kernel
theorem dX3_alterRow_3 : decode cX3_alterRow 3 = .ok (.invokevirtual 242, 3) := by decide +kernel
theorem dX3_alterRow_6 : decode cX3_alterRow 6 = .ok (.ifCond .ne 6, 3) := by decide +kernel
theorem dX3_alterRow_9 : decode cX3_alterRow 9 = .ok (.bipush (-9), 2) := by decide +kernel
theorem dX3_alterRow_11 : decode cX3_alterRow 11 = .ok (.ireturn, 1) := by decide +kernel
theorem dX3_alterRow_12 : decode cX3_alterRow 12 = .ok (.aload_n 0, 1) := by decide +kernel
theorem dX3_alterRow_13 : decode cX3_alterRow 13 = .ok (.getfield 31, 3) := by decide +kernel
theorem dX3_alterRow_16 : decode cX3_alterRow 16 = .ok (.iload_n 1, 1) := by decide +kernel
theorem dX3_alterRow_17 : decode cX3_alterRow 17 = .ok (.aaload, 1) := by decide +kernel
theorem dX3_alterRow_18 : decode cX3_alterRow 18 = .ok (.iload_n 2, 1) := by decide +kernel
theorem dX3_alterRow_19 : decode cX3_alterRow 19 = .ok (.iaload, 1) := by decide +kernel
theorem dX3_alterRow_20 : decode cX3_alterRow 20 = .ok (.istore 4, 2) := by decide +kernel
theorem dX3_alterRow_22 : decode cX3_alterRow 22 = .ok (.aload_n 0, 1) := by decide +kernel
theorem dX3_alterRow_23 : decode cX3_alterRow 23 = .ok (.getfield 31, 3) := by decide +kernel
theorem dX3_alterRow_26 : decode cX3_alterRow 26 = .ok (.iload_n 1, 1) := by decide +kernel
theorem dX3_alterRow_27 : decode cX3_alterRow 27 = .ok (.aaload, 1) := by decide +kernel
theorem dX3_alterRow_28 : decode cX3_alterRow 28 = .ok (.iload_n 2, 1) := by decide +kernel
theorem dX3_alterRow_29 : decode cX3_alterRow 29 = .ok (.iload_n 3, 1) := by decide +kernel
theorem dX3_alterRow_30 : decode cX3_alterRow 30 = .ok (.iastore, 1) := by decide +kernel
theorem dX3_alterRow_31 : decode cX3_alterRow 31 = .ok (.iload 4, 2) := by decide +kernel
theorem dX3_alterRow_33 : decode cX3_alterRow 33 = .ok (.ireturn, 1) := by decide +kernel
theorem dX3_judge_0 : decode cX3_judge 0 = .ok (.aload_n 0, 1) := by decide +kernel
theorem dX3_judge_1 : decode cX3_judge 1 = .ok (.iload_n 1, 1) := by decide +kernel
theorem dX3_judge_2 : decode cX3_judge 2 = .ok (.invokevirtual 114, 3) := by decide +kernel
theorem dX3_judge_5 : decode cX3_judge 5 = .ok (.ifCond .ne 5, 3) := by decide +kernel
theorem dX3_judge_8 : decode cX3_judge 8 = .ok (.iconst (-1), 1) := by decide +kernel
theorem dX3_judge_9 : decode cX3_judge 9 = .ok (.ireturn, 1) := by decide +kernel
theorem dX3_judge_10 : decode cX3_judge 10 = .ok (.aload_n 0, 1) := by decide +kernel
theorem dX3_judge_11 : decode cX3_judge 11 = .ok (.getfield 16, 3) := by decide +kernel
theorem dX3_judge_14 : decode cX3_judge 14 = .ok (.aload_n 0, 1) := by decide +kernel
theorem dX3_judge_15 : decode cX3_judge 15 = .ok (.getfield 10, 3) := by decide +kernel
theorem dX3_judge_18 : decode cX3_judge 18 = .ok (.invokevirtual 80, 3) := by decide +kernel
theorem dX3_judge_21 : decode cX3_judge 21 = .ok (.iconst 0, 1) := by decide +kernel
theorem dX3_judge_22 : decode cX3_judge 22 = .ok (.istore_n 2, 1) := by decide +kernel
theorem dX3_judge_23 : decode cX3_judge 23 = .ok (.iload_n 2, 1) := by decide +kernel
theorem dX3_judge_24 : decode cX3_judge 24 = .ok (.aload_n 0, 1) := by decide +kernel
theorem dX3_judge_25 : decode cX3_judge 25 = .ok (.getfield 84, 3) := by decide +kernel
theorem dX3_judge_28 : decode cX3_judge 28 = .ok (.if_icmp .ge 53, 3) := by decide +kernel
theorem dX3_judge_31 : decode cX3_judge 31 = .ok (.aload_n 0, 1) := by decide +kernel
theorem dX3_judge_32 : decode cX3_judge 32 = .ok (.getfield 16, 3) := by decide +kernel
theorem dX3_judge_35 : decode cX3_judge 35 = .ok (.invokevirtual 215, 3) := by decide +kernel
theorem dX3_judge_38 : decode cX3_judge 38 = .ok (.iconst 0, 1) := by decide +kernel
theorem dX3_judge_39 : decode cX3_judge 39 = .ok (.istore_n 3, 1) := by decide +kernel
theorem dX3_judge_40 : decode cX3_judge 40 = .ok (.iload_n 3, 1) := by decide +kernel
theorem dX3_judge_41 : decode cX3_judge 41 = .ok (.iconst 3, 1) := by decide +kernel
theorem dX3_judge_42 : decode cX3_judge 42 = .ok (.if_icmp .ge 33, 3) := by decide +kernel
theorem dX3_judge_45 : decode cX3_judge 45 = .ok (.aload_n 0, 1) := by decide +kernel
theorem dX3_judge_46 : decode cX3_judge 46 = .ok (.getfield 31, 3) := by decide +kernel
theorem dX3_judge_49 : decode cX3_judge 49 = .ok (.iload_n 2, 1) := by decide +kernel
theorem dX3_judge_50 : decode cX3_judge 50 = .ok (.aaload, 1) := by decide +kernel
theorem dX3_judge_51 : decode cX3_judge 51 = .ok (.iload_n 3, 1) := by decide +kernel
theorem dX3_judge_52 : decode cX3_judge 52 = .ok (.iaload, 1) := by decide +kernel
theorem dX3_judge_53 : decode cX3_judge 53 = .ok (.aload_n 0, 1) := by decide +kernel
theorem dX3_judge_54 : decode cX3_judge 54 = .ok (.getfield 16, 3) := by decide +kernel
theorem dX3_judge_57 : decode cX3_judge 57 = .ok (.iload_n 1, 1) := by decide +kernel
theorem dX3_judge_58 : decode cX3_judge 58 = .ok (.iload_n 3, 1) := by decide +kernel
theorem dX3_judge_59 : decode cX3_judge 59 = .ok (.invokevirtual 238, 3) := by decide +kernel
theorem dX3_judge_62 : decode cX3_judge 62 = .ok (.if_icmp .eq 7, 3) := by decide +kernel
theorem dX3_judge_65 : decode cX3_judge 65 = .ok (.iload_n 2, 1) := by decide +kernel
theorem dX3_judge_66 : decode cX3_judge 66 = .ok (.iconst 1, 1) := by decide +kernel
theorem dX3_judge_67 : decode cX3_judge 67 = .ok (.iadd, 1) := by decide +kernel
theorem dX3_judge_68 : decode cX3_judge 68 = .ok (.ireturn, 1) := by decide +kernel
theorem dX3_judge_69 : decode cX3_judge 69 = .ok (.iinc 3 1, 3) := by decide +kernel
theorem dX3_judge_72 : decode cX3_judge 72 = .ok (.goto (-32), 3) := by decide +kernel
theorem dX3_judge_75 : decode cX3_judge 75 = .ok (.iinc 2 1, 3) := by decide +kernel
theorem dX3_judge_78 : decode cX3_judge 78 = .ok (.goto (-55), 3) := by decide +kernel
theorem dX3_judge_81 : decode cX3_judge 81 = .ok (.iconst 0, 1) := by decide +kernel
theorem dX3_judge_82 : decode cX3_judge 82 = .ok (.ireturn, 1) := by decide +kernel
theorem dX3_minds_0 : decode cX3_minds 0 = .ok (.iload_n 1, 1) := by decide +kernel
theorem dX3_minds_1 : decode cX3_minds 1 = .ok (.invokestatic 225, 3) := by decide +kernel
theorem dX3_minds_4 : decode cX3_minds 4 = .ok (.ifCond .eq 35, 3) := by decide +kernel
theorem dX3_minds_7 : decode cX3_minds 7 = .ok (.aload_n 0, 1) := by decide +kernel
theorem dX3_minds_8 : decode cX3_minds 8 = .ok (.iload_n 3, 1) := by decide +kernel
theorem dX3_minds_9 : decode cX3_minds 9 = .ok (.invokevirtual 114, 3) := by decide +kernel
theorem dX3_minds_12 : decode cX3_minds 12 = .ok (.ifCond .eq 27, 3) := by decide +kernel
theorem dX3_minds_15 : decode cX3_minds 15 = .ok (.iload 4, 2) := by decide +kernel
theorem dX3_minds_17 : decode cX3_minds 17 = .ok (.bipush 8, 2) := by decide +kernel
theorem dX3_minds_19 : decode cX3_minds 19 = .ok (.invokestatic 97, 3) := by decide +kernel
theorem dX3_minds_22 : decode cX3_minds 22 = .ok (.ifCond .eq 17, 3) := by decide +kernel
theorem dX3_minds_25 : decode cX3_minds 25 = .ok (.iload_n 3, 1) := by decide +kernel
theorem dX3_minds_26 : decode cX3_minds 26 = .ok (.iload 4, 2) := by decide +kernel
theorem dX3_minds_28 : decode cX3_minds 28 = .ok (.iadd, 1) := by decide +kernel
theorem dX3_minds_29 : decode cX3_minds 29 = .ok (.aload_n 0, 1) := by decide +kernel
theorem dX3_minds_30 : decode cX3_minds 30 = .ok (.getfield 10, 3) := by decide +kernel
theorem dX3_minds_33 : decode cX3_minds 33 = .ok (.getfield 87, 3) := by decide +kernel
theorem dX3_minds_36 : decode cX3_minds 36 = .ok (.if_icmp .le 5, 3) := by decide +kernel
theorem dX3_minds_39 : decode cX3_minds 39 = .ok (.iconst (-1), 1) := by decide +kernel
theorem dX3_minds_40 : decode cX3_minds 40 = .ok (.ireturn, 1) := by decide +kernel
theorem dX3_minds_41 : decode cX3_minds 41 = .ok (.aload_n 0, 1) := by decide +kernel
theorem dX3_minds_42 : decode cX3_minds 42 = .ok (.getfield 34, 3) := by decide +kernel
theorem dX3_minds_45 : decode cX3_minds 45 = .ok (.iload_n 1, 1) := by decide +kernel
theorem dX3_minds_46 : decode cX3_minds 46 = .ok (.iaload, 1) := by decide +kernel
theorem dX3_minds_47 : decode cX3_minds 47 = .ok (.iconst (-1), 1) := by decide +kernel
theorem dX3_minds_48 : decode cX3_minds 48 = .ok (.if_icmp .ne 6, 3) := by decide +kernel
theorem dX3_minds_51 : decode cX3_minds 51 = .ok (.bipush (-11), 2) := by decide +kernel
theorem dX3_minds_53 : decode cX3_minds 53 = .ok (.ireturn, 1) := by decide +kernel
theorem dX3_minds_54 : decode cX3_minds 54 = .ok (.aload_n 0, 1) := by decide +kernel
theorem dX3_minds_55 : decode cX3_minds 55 = .ok (.getfield 34, 3) := by decide +kernel
theorem dX3_minds_58 : decode cX3_minds 58 = .ok (.iload_n 1, 1) := by decide +kernel
theorem dX3_minds_59 : decode cX3_minds 59 = .ok (.iaload, 1) := by decide +kernel
theorem dX3_minds_60 : decode cX3_minds 60 = .ok (.ifCond .eq 6, 3) := by decide +kernel
theorem dX3_minds_63 : decode cX3_minds 63 = .ok (.bipush (-13), 2) := by decide +kernel
theorem dX3_minds_65 : decode cX3_minds 65 = .ok (.ireturn, 1) := by decide +kernel
theorem dX3_minds_66 : decode cX3_minds 66 = .ok (.iload_n 2, 1) := by decide +kernel
theorem dX3_minds_67 : decode cX3_minds 67 = .ok (.aload_n 0, 1) := by decide +kernel
theorem dX3_minds_68 : decode cX3_minds 68 = .ok (.getfield 38, 3) := by decide +kernel
theorem dX3_minds_71 : decode cX3_minds 71 = .ok (.iload_n 1, 1) := by decide +kernel
theorem dX3_minds_72 : decode cX3_minds 72 = .ok (.iaload, 1) := by decide +kernel
theorem dX3_minds_73 : decode cX3_minds 73 = .ok (.invokestatic 97, 3) := by decide +kernel
theorem dX3_minds_76 : decode cX3_minds 76 = .ok (.ifCond .eq 16, 3) := by decide +kernel
theorem dX3_minds_79 : decode cX3_minds 79 = .ok (.iload 4, 2) := by decide +kernel
theorem dX3_minds_81 : decode cX3_minds 81 = .ok (.aload_n 0, 1) := by decide +kernel
theorem dX3_minds_82 : decode cX3_minds 82 = .ok (.getfield 38, 3) := by decide +kernel
theorem dX3_minds_85 : decode cX3_minds 85 = .ok (.iload_n 1, 1) := by decide +kernel
theorem dX3_minds_86 : decode cX3_minds 86 = .ok (.iaload, 1) := by decide +kernel
theorem dX3_minds_87 : decode cX3_minds 87 = .ok (.iload_n 2, 1) := by decide +kernel
theorem dX3_minds_88 : decode cX3_minds 88 = .ok (.isub, 1) := by decide +kernel
theorem dX3_minds_89 : decode cX3_minds 89 = .ok (.if_icmp .le 6, 3) := by decide +kernel
theorem dX3_minds_92 : decode cX3_minds 92 = .ok (.bipush (-12), 2) := by decide +kernel
theorem dX3_minds_94 : decode cX3_minds 94 = .ok (.ireturn, 1) := by decide +kernel
theorem dX3_minds_95 : decode cX3_minds 95 = .ok (.iconst 0, 1) := by decide +kernel
theorem dX3_minds_96 : decode cX3_minds 96 = .ok (.istore 5, 2) := by decide +kernel
theorem dX3_minds_98 : decode cX3_minds 98 = .ok (.iload 5, 2) := by decide +kernel
theorem dX3_minds_100 : decode cX3_minds 100 = .ok (.iload 4, 2) := by decide +kernel
theorem dX3_minds_102 : decode cX3_minds 102 = .ok (.if_icmp .ge 36, 3) := by decide +kernel
theorem dX3_minds_105 : decode cX3_minds 105 = .ok (.aload_n 0, 1) := by decide +kernel
theorem dX3_minds_106 : decode cX3_minds 106 = .ok (.getfield 10, 3) := by decide +kernel
theorem dX3_minds_109 : decode cX3_minds 109 = .ok (.getfield 123, 3) := by decide +kernel
theorem dX3_minds_112 : decode cX3_minds 112 = .ok (.iload_n 3, 1) := by decide +kernel
theorem dX3_minds_113 : decode cX3_minds 113 = .ok (.iload 5, 2) := by decide +kernel
theorem dX3_minds_115 : decode cX3_minds 115 = .ok (.iadd, 1) := by decide +kernel
theorem dX3_minds_116 : decode cX3_minds 116 = .ok (.aload_n 0, 1) := by decide +kernel
theorem dX3_minds_117 : decode cX3_minds 117 = .ok (.getfield 43, 3) := by decide +kernel
theorem dX3_minds_120 : decode cX3_minds 120 = .ok (.iload_n 1, 1) := by decide +kernel
theorem dX3_minds_121 : decode cX3_minds 121 = .ok (.aaload, 1) := by decide +kernel
theorem dX3_minds_122 : decode cX3_minds 122 = .ok (.iload_n 2, 1) := by decide +kernel
theorem dX3_minds_123 : decode cX3_minds 123 = .ok (.iload 5, 2) := by decide +kernel
theorem dX3_minds_125 : decode cX3_minds 125 = .ok (.iadd, 1) := by decide +kernel
theorem dX3_minds_126 : decode cX3_minds 126 = .ok (.laload, 1) := by decide +kernel
theorem dX3_minds_127 : decode cX3_minds 127 = .ok (.l2i, 1) := by decide +kernel
theorem dX3_minds_128 : decode cX3_minds 128 = .ok (.invokestatic 245, 3) := by decide +kernel
theorem dX3_minds_131 : decode cX3_minds 131 = .ok (.iastore, 1) := by decide +kernel
theorem dX3_minds_132 : decode cX3_minds 132 = .ok (.iinc 5 1, 3) := by decide +kernel
theorem dX3_minds_135 : decode cX3_minds 135 = .ok (.goto (-37), 3) := by decide +kernel
theorem dX3_minds_138 : decode cX3_minds 138 = .ok (.iload 4, 2) := by decide +kernel
theorem dX3_minds_140 : decode cX3_minds 140 = .ok (.ireturn, 1) := by decide +kernel
theorem dX3_sheet_0 : decode cX3_sheet 0 = .ok (.iload_n 1, 1) := by decide +kernel
theorem dX3_sheet_1 : decode cX3_sheet 1 = .ok (.invokestatic 225, 3) := by decide +kernel
theorem dX3_sheet_4 : decode cX3_sheet 4 = .ok (.ifCond .eq 13, 3) := by decide +kernel
theorem dX3_sheet_7 : decode cX3_sheet 7 = .ok (.iload_n 2, 1) := by decide +kernel
theorem dX3_sheet_8 : decode cX3_sheet 8 = .ok (.iconst (-1), 1) := by decide +kernel
theorem dX3_sheet_9 : decode cX3_sheet 9 = .ok (.if_icmp .lt 8, 3) := by decide +kernel
theorem dX3_sheet_12 : decode cX3_sheet 12 = .ok (.iload_n 2, 1) := by decide +kernel
theorem dX3_sheet_13 : decode cX3_sheet 13 = .ok (.iconst 4, 1) := by decide +kernel
theorem dX3_sheet_14 : decode cX3_sheet 14 = .ok (.if_icmp .lt 5, 3) := by decide +kernel
theorem dX3_sheet_17 : decode cX3_sheet 17 = .ok (.iconst (-1), 1) := by decide +kernel
theorem dX3_sheet_18 : decode cX3_sheet 18 = .ok (.ireturn, 1) := by decide +kernel
theorem dX3_sheet_19 : decode cX3_sheet 19 = .ok (.iload_n 2, 1) := by decide +kernel
theorem dX3_sheet_20 : decode cX3_sheet 20 = .ok (.iconst (-1), 1) := by decide +kernel
theorem dX3_sheet_21 : decode cX3_sheet 21 = .ok (.if_icmp .ne 7, 3) := by decide +kernel
theorem dX3_sheet_24 : decode cX3_sheet 24 = .ok (.iconst 0, 1) := by decide +kernel
theorem dX3_sheet_25 : decode cX3_sheet 25 = .ok (.goto 4, 3) := by decide +kernel
theorem dX3_sheet_28 : decode cX3_sheet 28 = .ok (.iload_n 3, 1) := by decide +kernel
theorem dX3_sheet_29 : decode cX3_sheet 29 = .ok (.istore 4, 2) := by decide +kernel
theorem dX3_sheet_31 : decode cX3_sheet 31 = .ok (.iload 4, 2) := by decide +kernel
theorem dX3_sheet_33 : decode cX3_sheet 33 = .ok (.bipush 40, 2) := by decide +kernel
theorem dX3_sheet_35 : decode cX3_sheet 35 = .ok (.if_icmp .le 5, 3) := by decide +kernel
theorem dX3_sheet_38 : decode cX3_sheet 38 = .ok (.iconst (-1), 1) := by decide +kernel
theorem dX3_sheet_39 : decode cX3_sheet 39 = .ok (.ireturn, 1) := by decide +kernel
theorem dX3_sheet_40 : decode cX3_sheet 40 = .ok (.iload 4, 2) := by decide +kernel
theorem dX3_sheet_42 : decode cX3_sheet 42 = .ok (.ifCond .ge 6, 3) := by decide +kernel
theorem dX3_sheet_45 : decode cX3_sheet 45 = .ok (.bipush (-14), 2) := by decide +kernel
theorem dX3_sheet_47 : decode cX3_sheet 47 = .ok (.ireturn, 1) := by decide +kernel
theorem dX3_sheet_48 : decode cX3_sheet 48 = .ok (.aload_n 0, 1) := by decide +kernel
theorem dX3_sheet_49 : decode cX3_sheet 49 = .ok (.getfield 34, 3) := by decide +kernel
theorem dX3_sheet_52 : decode cX3_sheet 52 = .ok (.iload_n 1, 1) := by decide +kernel
theorem dX3_sheet_53 : decode cX3_sheet 53 = .ok (.iload_n 2, 1) := by decide +kernel
theorem dX3_sheet_54 : decode cX3_sheet 54 = .ok (.iastore, 1) := by decide +kernel
theorem dX3_sheet_55 : decode cX3_sheet 55 = .ok (.aload_n 0, 1) := by decide +kernel
theorem dX3_sheet_56 : decode cX3_sheet 56 = .ok (.getfield 38, 3) := by decide +kernel
theorem dX3_sheet_59 : decode cX3_sheet 59 = .ok (.iload_n 1, 1) := by decide +kernel
theorem dX3_sheet_60 : decode cX3_sheet 60 = .ok (.iload 4, 2) := by decide +kernel
theorem dX3_sheet_62 : decode cX3_sheet 62 = .ok (.iastore, 1) := by decide +kernel
theorem dX3_sheet_63 : decode cX3_sheet 63 = .ok (.iconst 0, 1) := by decide +kernel
theorem dX3_sheet_64 : decode cX3_sheet 64 = .ok (.istore 5, 2) := by decide +kernel
theorem dX3_sheet_66 : decode cX3_sheet 66 = .ok (.iload 5, 2) := by decide +kernel
theorem dX3_sheet_68 : decode cX3_sheet 68 = .ok (.bipush 40, 2) := by decide +kernel
theorem dX3_sheet_70 : decode cX3_sheet 70 = .ok (.if_icmp .ge 19, 3) := by decide +kernel
theorem dX3_sheet_73 : decode cX3_sheet 73 = .ok (.aload_n 0, 1) := by decide +kernel
theorem dX3_sheet_74 : decode cX3_sheet 74 = .ok (.getfield 43, 3) := by decide +kernel
theorem dX3_sheet_77 : decode cX3_sheet 77 = .ok (.iload_n 1, 1) := by decide +kernel
theorem dX3_sheet_78 : decode cX3_sheet 78 = .ok (.aaload, 1) := by decide +kernel
theorem dX3_sheet_79 : decode cX3_sheet 79 = .ok (.iload 5, 2) := by decide +kernel
theorem dX3_sheet_81 : decode cX3_sheet 81 = .ok (.lconst 0, 1) := by decide +kernel
theorem dX3_sheet_82 : decode cX3_sheet 82 = .ok (.lastore, 1) := by decide +kernel
theorem dX3_sheet_83 : decode cX3_sheet 83 = .ok (.iinc 5 1, 3) := by decide +kernel
theorem dX3_sheet_86 : decode cX3_sheet 86 = .ok (.goto (-20), 3) := by decide +kernel
theorem dX3_sheet_89 : decode cX3_sheet 89 = .ok (.iconst 1, 1) := by decide +kernel
theorem dX3_sheet_90 : decode cX3_sheet 90 = .ok (.ireturn, 1) := by decide +kernel
theorem dX3_put_0 : decode cX3_put 0 = .ok (.iload_n 1, 1) := by decide +kernel
theorem dX3_put_1 : decode cX3_put 1 = .ok (.invokestatic 225, 3) := by decide +kernel
theorem dX3_put_4 : decode cX3_put 4 = .ok (.ifCond .ne 5, 3) := by decide +kernel
theorem dX3_put_7 : decode cX3_put 7 = .ok (.iconst (-1), 1) := by decide +kernel
theorem dX3_put_8 : decode cX3_put 8 = .ok (.ireturn, 1) := by decide +kernel
theorem dX3_put_9 : decode cX3_put 9 = .ok (.aload_n 0, 1) := by decide +kernel
theorem dX3_put_10 : decode cX3_put 10 = .ok (.getfield 34, 3) := by decide +kernel
theorem dX3_put_13 : decode cX3_put 13 = .ok (.iload_n 1, 1) := by decide +kernel
theorem dX3_put_14 : decode cX3_put 14 = .ok (.iaload, 1) := by decide +kernel
theorem dX3_put_15 : decode cX3_put 15 = .ok (.iconst (-1), 1) := by decide +kernel
theorem dX3_put_16 : decode cX3_put 16 = .ok (.if_icmp .ne 6, 3) := by decide +kernel
theorem dX3_put_19 : decode cX3_put 19 = .ok (.bipush (-11), 2) := by decide +kernel
theorem dX3_put_21 : decode cX3_put 21 = .ok (.ireturn, 1) := by decide +kernel
theorem dX3_put_22 : decode cX3_put 22 = .ok (.iload_n 2, 1) := by decide +kernel
theorem dX3_put_23 : decode cX3_put 23 = .ok (.ifCond .lt 13, 3) := by decide +kernel
theorem dX3_put_26 : decode cX3_put 26 = .ok (.iload_n 2, 1) := by decide +kernel
theorem dX3_put_27 : decode cX3_put 27 = .ok (.aload_n 0, 1) := by decide +kernel
theorem dX3_put_28 : decode cX3_put 28 = .ok (.getfield 38, 3) := by decide +kernel
theorem dX3_put_31 : decode cX3_put 31 = .ok (.iload_n 1, 1) := by decide +kernel
theorem dX3_put_32 : decode cX3_put 32 = .ok (.iaload, 1) := by decide +kernel
theorem dX3_put_33 : decode cX3_put 33 = .ok (.if_icmp .lt 6, 3) := by decide +kernel
theorem dX3_put_36 : decode cX3_put 36 = .ok (.bipush (-12), 2) := by decide +kernel
theorem dX3_put_38 : decode cX3_put 38 = .ok (.ireturn, 1) := by decide +kernel
theorem dX3_put_39 : decode cX3_put 39 = .ok (.aload_n 0, 1) := by decide +kernel
theorem dX3_put_40 : decode cX3_put 40 = .ok (.getfield 43, 3) := by decide +kernel
theorem dX3_put_43 : decode cX3_put 43 = .ok (.iload_n 1, 1) := by decide +kernel
theorem dX3_put_44 : decode cX3_put 44 = .ok (.aaload, 1) := by decide +kernel
theorem dX3_put_45 : decode cX3_put 45 = .ok (.iload_n 2, 1) := by decide +kernel
theorem dX3_put_46 : decode cX3_put 46 = .ok (.iload_n 3, 1) := by decide +kernel
theorem dX3_put_47 : decode cX3_put 47 = .ok (.aload_n 0, 1) := by decide +kernel
theorem dX3_put_48 : decode cX3_put 48 = .ok (.getfield 34, 3) := by decide +kernel
theorem dX3_put_51 : decode cX3_put 51 = .ok (.iload_n 1, 1) := by decide +kernel
theorem dX3_put_52 : decode cX3_put 52 = .ok (.iaload, 1) := by decide +kernel
theorem dX3_put_53 : decode cX3_put 53 = .ok (.invokestatic 248, 3) := by decide +kernel
theorem dX3_put_56 : decode cX3_put 56 = .ok (.lastore, 1) := by decide +kernel
theorem dX3_put_57 : decode cX3_put 57 = .ok (.iconst 1, 1) := by decide +kernel
theorem dX3_put_58 : decode cX3_put 58 = .ok (.ireturn, 1) := by decide +kernel
theorem dX3_item_0 : decode cX3_item 0 = .ok (.iload_n 1, 1) := by decide +kernel
theorem dX3_item_1 : decode cX3_item 1 = .ok (.invokestatic 225, 3) := by decide +kernel
theorem dX3_item_4 : decode cX3_item 4 = .ok (.ifCond .eq 10, 3) := by decide +kernel
theorem dX3_item_7 : decode cX3_item 7 = .ok (.iload_n 2, 1) := by decide +kernel
theorem dX3_item_8 : decode cX3_item 8 = .ok (.invokestatic 252, 3) := by decide +kernel
theorem dX3_item_11 : decode cX3_item 11 = .ok (.ifCond .ne 5, 3) := by decide +kernel
theorem dX3_item_14 : decode cX3_item 14 = .ok (.iconst (-1), 1) := by decide +kernel
theorem dX3_item_15 : decode cX3_item 15 = .ok (.ireturn, 1) := by decide +kernel
theorem dX3_item_16 : decode cX3_item 16 = .ok (.aload_n 0, 1) := by decide +kernel
theorem dX3_item_17 : decode cX3_item 17 = .ok (.getfield 34, 3) := by decide +kernel
theorem dX3_item_20 : decode cX3_item 20 = .ok (.iload_n 1, 1) := by decide +kernel
theorem dX3_item_21 : decode cX3_item 21 = .ok (.iaload, 1) := by decide +kernel
theorem dX3_item_22 : decode cX3_item 22 = .ok (.iconst (-1), 1) := by decide +kernel
theorem dX3_item_23 : decode cX3_item 23 = .ok (.if_icmp .ne 6, 3) := by decide +kernel
theorem dX3_item_26 : decode cX3_item 26 = .ok (.bipush (-11), 2) := by decide +kernel
theorem dX3_item_28 : decode cX3_item 28 = .ok (.ireturn, 1) := by decide +kernel
theorem dX3_item_29 : decode cX3_item 29 = .ok (.aload_n 0, 1) := by decide +kernel
theorem dX3_item_30 : decode cX3_item 30 = .ok (.getfield 34, 3) := by decide +kernel
theorem dX3_item_33 : decode cX3_item 33 = .ok (.iload_n 1, 1) := by decide +kernel
theorem dX3_item_34 : decode cX3_item 34 = .ok (.iaload, 1) := by decide +kernel
theorem dX3_item_35 : decode cX3_item 35 = .ok (.iload_n 2, 1) := by decide +kernel
theorem dX3_item_36 : decode cX3_item 36 = .ok (.if_icmp .eq 6, 3) := by decide +kernel
theorem dX3_item_39 : decode cX3_item 39 = .ok (.bipush (-13), 2) := by decide +kernel
theorem dX3_item_41 : decode cX3_item 41 = .ok (.ireturn, 1) := by decide +kernel
theorem dX3_item_42 : decode cX3_item 42 = .ok (.iload_n 3, 1) := by decide +kernel
theorem dX3_item_43 : decode cX3_item 43 = .ok (.ifCond .lt 13, 3) := by decide +kernel
theorem dX3_item_46 : decode cX3_item 46 = .ok (.iload_n 3, 1) := by decide +kernel
theorem dX3_item_47 : decode cX3_item 47 = .ok (.aload_n 0, 1) := by decide +kernel
theorem dX3_item_48 : decode cX3_item 48 = .ok (.getfield 38, 3) := by decide +kernel
theorem dX3_item_51 : decode cX3_item 51 = .ok (.iload_n 1, 1) := by decide +kernel
theorem dX3_item_52 : decode cX3_item 52 = .ok (.iaload, 1) := by decide +kernel
theorem dX3_item_53 : decode cX3_item 53 = .ok (.if_icmp .lt 6, 3) := by decide +kernel
theorem dX3_item_56 : decode cX3_item 56 = .ok (.bipush (-12), 2) := by decide +kernel
theorem dX3_item_58 : decode cX3_item 58 = .ok (.ireturn, 1) := by decide +kernel
theorem dX3_item_59 : decode cX3_item 59 = .ok (.aload_n 0, 1) := by decide +kernel
theorem dX3_item_60 : decode cX3_item 60 = .ok (.getfield 43, 3) := by decide +kernel
theorem dX3_item_63 : decode cX3_item 63 = .ok (.iload_n 1, 1) := by decide +kernel
theorem dX3_item_64 : decode cX3_item 64 = .ok (.aaload, 1) := by decide +kernel
theorem dX3_item_65 : decode cX3_item 65 = .ok (.iload_n 3, 1) := by decide +kernel
theorem dX3_item_66 : decode cX3_item 66 = .ok (.laload, 1) := by decide +kernel
theorem dX3_item_67 : decode cX3_item 67 = .ok (.l2i, 1) := by decide +kernel
theorem dX3_item_68 : decode cX3_item 68 = .ok (.ireturn, 1) := by decide +kernel
theorem dX3_shelf_0 : decode cX3_shelf 0 = .ok (.iload_n 1, 1) := by decide +kernel
theorem dX3_shelf_1 : decode cX3_shelf 1 = .ok (.invokestatic 255, 3) := by decide +kernel
theorem dX3_shelf_4 : decode cX3_shelf 4 = .ok (.ifCond .ne 5, 3) := by decide +kernel
theorem dX3_shelf_7 : decode cX3_shelf 7 = .ok (.iconst (-1), 1) := by decide +kernel
theorem dX3_shelf_8 : decode cX3_shelf 8 = .ok (.ireturn, 1) := by decide +kernel
theorem dX3_shelf_9 : decode cX3_shelf 9 = .ok (.iload_n 2, 1) := by decide +kernel
theorem dX3_shelf_10 : decode cX3_shelf 10 = .ok (.tableswitch 98 0 2 #[26, 47, 89], 26) := by decide +kernel
theorem dX3_shelf_36 : decode cX3_shelf 36 = .ok (.aload_n 0, 1) := by decide +kernel
theorem dX3_shelf_37 : decode cX3_shelf 37 = .ok (.iload_n 3, 1) := by decide +kernel
theorem dX3_shelf_38 : decode cX3_shelf 38 = .ok (.invokevirtual 114, 3) := by decide +kernel
theorem dX3_shelf_41 : decode cX3_shelf 41 = .ok (.ifCond .eq 14, 3) := by decide +kernel
theorem dX3_shelf_44 : decode cX3_shelf 44 = .ok (.aload_n 0, 1) := by decide +kernel
theorem dX3_shelf_45 : decode cX3_shelf 45 = .ok (.iload_n 1, 1) := by decide +kernel
theorem dX3_shelf_46 : decode cX3_shelf 46 = .ok (.iconst 0, 1) := by decide +kernel
theorem dX3_shelf_47 : decode cX3_shelf 47 = .ok (.iload_n 3, 1) := by decide +kernel
theorem dX3_shelf_48 : decode cX3_shelf 48 = .ok (.iconst (-1), 1) := by decide +kernel
theorem dX3_shelf_49 : decode cX3_shelf 49 = .ok (.invokevirtual 258, 3) := by decide +kernel
theorem dX3_shelf_52 : decode cX3_shelf 52 = .ok (.goto 4, 3) := by decide +kernel
theorem dX3_shelf_55 : decode cX3_shelf 55 = .ok (.iconst (-1), 1) := by decide +kernel
theorem dX3_shelf_56 : decode cX3_shelf 56 = .ok (.ireturn, 1) := by decide +kernel
theorem dX3_shelf_57 : decode cX3_shelf 57 = .ok (.iload_n 3, 1) := by decide +kernel
theorem dX3_shelf_58 : decode cX3_shelf 58 = .ok (.invokestatic 225, 3) := by decide +kernel
theorem dX3_shelf_61 : decode cX3_shelf 61 = .ok (.ifCond .ne 5, 3) := by decide +kernel
theorem dX3_shelf_64 : decode cX3_shelf 64 = .ok (.iconst (-1), 1) := by decide +kernel
theorem dX3_shelf_65 : decode cX3_shelf 65 = .ok (.ireturn, 1) := by decide +kernel
theorem dX3_shelf_66 : decode cX3_shelf 66 = .ok (.aload_n 0, 1) := by decide +kernel
theorem dX3_shelf_67 : decode cX3_shelf 67 = .ok (.iload_n 1, 1) := by decide +kernel
theorem dX3_shelf_68 : decode cX3_shelf 68 = .ok (.aload_n 0, 1) := by decide +kernel
theorem dX3_shelf_69 : decode cX3_shelf 69 = .ok (.getfield 34, 3) := by decide +kernel
theorem dX3_shelf_72 : decode cX3_shelf 72 = .ok (.iload_n 3, 1) := by decide +kernel
theorem dX3_shelf_73 : decode cX3_shelf 73 = .ok (.iaload, 1) := by decide +kernel
theorem dX3_shelf_74 : decode cX3_shelf 74 = .ok (.iconst (-1), 1) := by decide +kernel
theorem dX3_shelf_75 : decode cX3_shelf 75 = .ok (.if_icmp .ne 7, 3) := by decide +kernel
theorem dX3_shelf_78 : decode cX3_shelf 78 = .ok (.iconst 2, 1) := by decide +kernel
theorem dX3_shelf_79 : decode cX3_shelf 79 = .ok (.goto 4, 3) := by decide +kernel
theorem dX3_shelf_82 : decode cX3_shelf 82 = .ok (.iconst 1, 1) := by decide +kernel
theorem dX3_shelf_83 : decode cX3_shelf 83 = .ok (.aload_n 0, 1) := by decide +kernel
theorem dX3_shelf_84 : decode cX3_shelf 84 = .ok (.getfield 38, 3) := by decide +kernel
theorem dX3_shelf_87 : decode cX3_shelf 87 = .ok (.iload_n 3, 1) := by decide +kernel
theorem dX3_shelf_88 : decode cX3_shelf 88 = .ok (.iaload, 1) := by decide +kernel
theorem dX3_shelf_89 : decode cX3_shelf 89 = .ok (.aload_n 0, 1) := by decide +kernel
theorem dX3_shelf_90 : decode cX3_shelf 90 = .ok (.getfield 34, 3) := by decide +kernel
theorem dX3_shelf_93 : decode cX3_shelf 93 = .ok (.iload_n 3, 1) := by decide +kernel
theorem dX3_shelf_94 : decode cX3_shelf 94 = .ok (.iaload, 1) := by decide +kernel
theorem dX3_shelf_95 : decode cX3_shelf 95 = .ok (.invokevirtual 258, 3) := by decide +kernel
theorem dX3_shelf_98 : decode cX3_shelf 98 = .ok (.ireturn, 1) := by decide +kernel
theorem dX3_shelf_99 : decode cX3_shelf 99 = .ok (.aload_n 0, 1) := by decide +kernel
theorem dX3_shelf_100 : decode cX3_shelf 100 = .ok (.iload_n 1, 1) := by decide +kernel
theorem dX3_shelf_101 : decode cX3_shelf 101 = .ok (.iconst 2, 1) := by decide +kernel
theorem dX3_shelf_102 : decode cX3_shelf 102 = .ok (.iconst 0, 1) := by decide +kernel
theorem dX3_shelf_103 : decode cX3_shelf 103 = .ok (.iconst (-1), 1) := by decide +kernel
theorem dX3_shelf_104 : decode cX3_shelf 104 = .ok (.invokevirtual 258, 3) := by decide +kernel
theorem dX3_shelf_107 : decode cX3_shelf 107 = .ok (.ireturn, 1) := by decide +kernel
theorem dX3_shelf_108 : decode cX3_shelf 108 = .ok (.iconst (-1), 1) := by decide +kernel
theorem dX3_shelf_109 : decode cX3_shelf 109 = .ok (.ireturn, 1) := by decide +kernel
theorem dX3_taken_0 : decode cX3_taken 0 = .ok (.iload_n 1, 1) := by decide +kernel
theorem dX3_taken_1 : decode cX3_taken 1 = .ok (.invokestatic 255, 3) := by decide +kernel
theorem dX3_taken_4 : decode cX3_taken 4 = .ok (.ifCond .eq 22, 3) := by decide +kernel
theorem dX3_taken_7 : decode cX3_taken 7 = .ok (.iload_n 2, 1) := by decide +kernel
theorem dX3_taken_8 : decode cX3_taken 8 = .ok (.invokestatic 104, 3) := by decide +kernel
theorem dX3_taken_11 : decode cX3_taken 11 = .ok (.ifCond .ne 17, 3) := by decide +kernel
theorem dX3_taken_14 : decode cX3_taken 14 = .ok (.iload_n 2, 1) := by decide +kernel
theorem dX3_taken_15 : decode cX3_taken 15 = .ok (.bipush 10, 2) := by decide +kernel
theorem dX3_taken_17 : decode cX3_taken 17 = .ok (.if_icmp .lt 9, 3) := by decide +kernel
theorem dX3_taken_20 : decode cX3_taken 20 = .ok (.iload_n 2, 1) := by decide +kernel
theorem dX3_taken_21 : decode cX3_taken 21 = .ok (.bipush 14, 2) := by decide +kernel
theorem dX3_taken_23 : decode cX3_taken 23 = .ok (.if_icmp .lt 5, 3) := by decide +kernel
theorem dX3_taken_26 : decode cX3_taken 26 = .ok (.iconst (-1), 1) := by decide +kernel
theorem dX3_taken_27 : decode cX3_taken 27 = .ok (.ireturn, 1) := by decide +kernel
theorem dX3_taken_28 : decode cX3_taken 28 = .ok (.aload_n 0, 1) := by decide +kernel
theorem dX3_taken_29 : decode cX3_taken 29 = .ok (.iload_n 1, 1) := by decide +kernel
theorem dX3_taken_30 : decode cX3_taken 30 = .ok (.invokevirtual 261, 3) := by decide +kernel
theorem dX3_taken_33 : decode cX3_taken 33 = .ok (.ifCond .eq 28, 3) := by decide +kernel
theorem dX3_taken_36 : decode cX3_taken 36 = .ok (.aload_n 0, 1) := by decide +kernel
theorem dX3_taken_37 : decode cX3_taken 37 = .ok (.getfield 52, 3) := by decide +kernel
theorem dX3_taken_40 : decode cX3_taken 40 = .ok (.iload_n 1, 1) := by decide +kernel
theorem dX3_taken_41 : decode cX3_taken 41 = .ok (.iaload, 1) := by decide +kernel
theorem dX3_taken_42 : decode cX3_taken 42 = .ok (.iload_n 2, 1) := by decide +kernel
theorem dX3_taken_43 : decode cX3_taken 43 = .ok (.bipush 10, 2) := by decide +kernel
theorem dX3_taken_45 : decode cX3_taken 45 = .ok (.isub, 1) := by decide +kernel
theorem dX3_taken_46 : decode cX3_taken 46 = .ok (.if_icmp .ne 12, 3) := by decide +kernel
theorem dX3_taken_49 : decode cX3_taken 49 = .ok (.aload_n 0, 1) := by decide +kernel
theorem dX3_taken_50 : decode cX3_taken 50 = .ok (.getfield 49, 3) := by decide +kernel
theorem dX3_taken_53 : decode cX3_taken 53 = .ok (.iload_n 1, 1) := by decide +kernel
theorem dX3_taken_54 : decode cX3_taken 54 = .ok (.iaload, 1) := by decide +kernel
theorem dX3_taken_55 : decode cX3_taken 55 = .ok (.goto 5, 3) := by decide +kernel
theorem dX3_taken_58 : decode cX3_taken 58 = .ok (.bipush (-13), 2) := by decide +kernel
theorem dX3_taken_60 : decode cX3_taken 60 = .ok (.ireturn, 1) := by decide +kernel
theorem dX3_taken_61 : decode cX3_taken 61 = .ok (.aload_n 0, 1) := by decide +kernel
theorem dX3_taken_62 : decode cX3_taken 62 = .ok (.iload_n 1, 1) := by decide +kernel
theorem dX3_taken_63 : decode cX3_taken 63 = .ok (.invokevirtual 264, 3) := by decide +kernel
theorem dX3_taken_66 : decode cX3_taken 66 = .ok (.ifCond .ne 6, 3) := by decide +kernel
theorem dX3_taken_69 : decode cX3_taken 69 = .ok (.bipush (-11), 2) := by decide +kernel
theorem dX3_taken_71 : decode cX3_taken 71 = .ok (.ireturn, 1) := by decide +kernel
theorem dX3_taken_72 : decode cX3_taken 72 = .ok (.aload_n 0, 1) := by decide +kernel
theorem dX3_taken_73 : decode cX3_taken 73 = .ok (.getfield 49, 3) := by decide +kernel
theorem dX3_taken_76 : decode cX3_taken 76 = .ok (.iload_n 1, 1) := by decide +kernel
theorem dX3_taken_77 : decode cX3_taken 77 = .ok (.iaload, 1) := by decide +kernel
theorem dX3_taken_78 : decode cX3_taken 78 = .ok (.istore_n 3, 1) := by decide +kernel
theorem dX3_taken_79 : decode cX3_taken 79 = .ok (.iload_n 2, 1) := by decide +kernel
theorem dX3_taken_80 : decode cX3_taken 80 = .ok (.invokestatic 104, 3) := by decide +kernel
theorem dX3_taken_83 : decode cX3_taken 83 = .ok (.ifCond .eq 23, 3) := by decide +kernel
theorem dX3_taken_86 : decode cX3_taken 86 = .ok (.aload_n 0, 1) := by decide +kernel
theorem dX3_taken_87 : decode cX3_taken 87 = .ok (.getfield 10, 3) := by decide +kernel
theorem dX3_taken_90 : decode cX3_taken 90 = .ok (.getfield 117, 3) := by decide +kernel
theorem dX3_taken_93 : decode cX3_taken 93 = .ok (.iload_n 3, 1) := by decide +kernel
theorem dX3_taken_94 : decode cX3_taken 94 = .ok (.iaload, 1) := by decide +kernel
theorem dX3_taken_95 : decode cX3_taken 95 = .ok (.iload_n 2, 1) := by decide +kernel
theorem dX3_taken_96 : decode cX3_taken 96 = .ok (.invokestatic 267, 3) := by decide +kernel
theorem dX3_taken_99 : decode cX3_taken 99 = .ok (.ifCond .eq 7, 3) := by decide +kernel
theorem dX3_taken_102 : decode cX3_taken 102 = .ok (.iload_n 3, 1) := by decide +kernel
theorem dX3_taken_103 : decode cX3_taken 103 = .ok (.goto 5, 3) := by decide +kernel
theorem dX3_taken_106 : decode cX3_taken 106 = .ok (.bipush (-13), 2) := by decide +kernel
theorem dX3_taken_108 : decode cX3_taken 108 = .ok (.ireturn, 1) := by decide +kernel
theorem dX3_act_0 : decode cX3_act 0 = .ok (.aload_n 0, 1) := by decide +kernel
theorem dX3_act_1 : decode cX3_act 1 = .ok (.getfield 58, 3) := by decide +kernel
theorem dX3_act_4 : decode cX3_act 4 = .ok (.invokevirtual 270, 3) := by decide +kernel
theorem dX3_act_7 : decode cX3_act 7 = .ok (.iload_n 1, 1) := by decide +kernel
theorem dX3_act_8 : decode cX3_act 8 = .ok (.invokestatic 255, 3) := by decide +kernel
theorem dX3_act_11 : decode cX3_act 11 = .ok (.ifCond .eq 19, 3) := by decide +kernel
theorem dX3_act_14 : decode cX3_act 14 = .ok (.iload_n 2, 1) := by decide +kernel
theorem dX3_act_15 : decode cX3_act 15 = .ok (.iconst 3, 1) := by decide +kernel
theorem dX3_act_16 : decode cX3_act 16 = .ok (.invokestatic 97, 3) := by decide +kernel
theorem dX3_act_19 : decode cX3_act 19 = .ok (.ifCond .eq 11, 3) := by decide +kernel
theorem dX3_act_22 : decode cX3_act 22 = .ok (.aload_n 0, 1) := by decide +kernel
theorem dX3_act_23 : decode cX3_act 23 = .ok (.iload_n 1, 1) := by decide +kernel
theorem dX3_act_24 : decode cX3_act 24 = .ok (.invokevirtual 264, 3) := by decide +kernel
theorem dX3_act_27 : decode cX3_act 27 = .ok (.ifCond .ne 5, 3) := by decide +kernel
theorem dX3_act_30 : decode cX3_act 30 = .ok (.iconst 0, 1) := by decide +kernel
theorem dX3_act_31 : decode cX3_act 31 = .ok (.ireturn, 1) := by decide +kernel
theorem dX3_act_32 : decode cX3_act 32 = .ok (.aload_n 0, 1) := by decide +kernel
theorem dX3_act_33 : decode cX3_act 33 = .ok (.getfield 49, 3) := by decide +kernel
theorem dX3_act_36 : decode cX3_act 36 = .ok (.iload_n 1, 1) := by decide +kernel
theorem dX3_act_37 : decode cX3_act 37 = .ok (.iaload, 1) := by decide +kernel
theorem dX3_act_38 : decode cX3_act 38 = .ok (.istore 4, 2) := by decide +kernel
theorem dX3_act_40 : decode cX3_act 40 = .ok (.aload_n 0, 1) := by decide +kernel
theorem dX3_act_41 : decode cX3_act 41 = .ok (.getfield 58, 3) := by decide +kernel
theorem dX3_act_44 : decode cX3_act 44 = .ok (.iload 4, 2) := by decide +kernel
theorem dX3_act_46 : decode cX3_act 46 = .ok (.aload_n 0, 1) := by decide +kernel
theorem dX3_act_47 : decode cX3_act 47 = .ok (.getfield 10, 3) := by decide +kernel
theorem dX3_act_50 : decode cX3_act 50 = .ok (.getfield 117, 3) := by decide +kernel
theorem dX3_act_53 : decode cX3_act 53 = .ok (.iload 4, 2) := by decide +kernel
theorem dX3_act_55 : decode cX3_act 55 = .ok (.iaload, 1) := by decide +kernel
theorem dX3_act_56 : decode cX3_act 56 = .ok (.aload_n 0, 1) := by decide +kernel
theorem dX3_act_57 : decode cX3_act 57 = .ok (.getfield 10, 3) := by decide +kernel
theorem dX3_act_60 : decode cX3_act 60 = .ok (.getfield 120, 3) := by decide +kernel
theorem dX3_act_63 : decode cX3_act 63 = .ok (.iload 4, 2) := by decide +kernel
theorem dX3_act_65 : decode cX3_act 65 = .ok (.iaload, 1) := by decide +kernel
theorem dX3_act_66 : decode cX3_act 66 = .ok (.iload_n 2, 1) := by decide +kernel
theorem dX3_act_67 : decode cX3_act 67 = .ok (.iload_n 3, 1) := by decide +kernel
theorem dX3_act_68 : decode cX3_act 68 = .ok (.invokevirtual 273, 3) := by decide +kernel
theorem dX3_act_71 : decode cX3_act 71 = .ok (.ireturn, 1) := by decide +kernel
theorem dX3_trace_0 : decode cX3_trace 0 = .ok (.iload_n 1, 1) := by decide +kernel
theorem dX3_trace_1 : decode cX3_trace 1 = .ok (.ifCond .lt 26, 3) := by decide +kernel
theorem dX3_trace_4 : decode cX3_trace 4 = .ok (.iload_n 1, 1) := by decide +kernel
theorem dX3_trace_5 : decode cX3_trace 5 = .ok (.aload_n 0, 1) := by decide +kernel
theorem dX3_trace_6 : decode cX3_trace 6 = .ok (.getfield 58, 3) := by decide +kernel
theorem dX3_trace_9 : decode cX3_trace 9 = .ok (.getfield 277, 3) := by decide +kernel
theorem dX3_trace_12 : decode cX3_trace 12 = .ok (.if_icmp .ge 15, 3) := by decide +kernel
theorem dX3_trace_15 : decode cX3_trace 15 = .ok (.aload_n 0, 1) := by decide +kernel
theorem dX3_trace_16 : decode cX3_trace 16 = .ok (.getfield 58, 3) := by decide +kernel
theorem dX3_trace_19 : decode cX3_trace 19 = .ok (.getfield 278, 3) := by decide +kernel
theorem dX3_trace_22 : decode cX3_trace 22 = .ok (.iload_n 1, 1) := by decide +kernel
theorem dX3_trace_23 : decode cX3_trace 23 = .ok (.iaload, 1) := by decide +kernel
theorem dX3_trace_24 : decode cX3_trace 24 = .ok (.goto 5, 3) := by decide +kernel
theorem dX3_trace_27 : decode cX3_trace 27 = .ok (.bipush (-3), 2) := by decide +kernel
theorem dX3_trace_29 : decode cX3_trace 29 = .ok (.ireturn, 1) := by decide +kernel
theorem dX3_many_0 : decode cX3_many 0 = .ok (.iload_n 1, 1) := by decide +kernel
theorem dX3_many_1 : decode cX3_many 1 = .ok (.tableswitch 105 0 6 #[43, 51, 62, 73, 84, 89, 97], 43) := by decide +kernel
theorem dX3_many_44 : decode cX3_many 44 = .ok (.aload_n 0, 1) := by decide +kernel
theorem dX3_many_45 : decode cX3_many 45 = .ok (.getfield 10, 3) := by decide +kernel
theorem dX3_many_48 : decode cX3_many 48 = .ok (.getfield 87, 3) := by decide +kernel
theorem dX3_many_51 : decode cX3_many 51 = .ok (.ireturn, 1) := by decide +kernel
theorem dX3_many_52 : decode cX3_many 52 = .ok (.aload_n 0, 1) := by decide +kernel
theorem dX3_many_53 : decode cX3_many 53 = .ok (.getfield 10, 3) := by decide +kernel
theorem dX3_many_56 : decode cX3_many 56 = .ok (.invokevirtual 167, 3) := by decide +kernel
theorem dX3_many_59 : decode cX3_many 59 = .ok (.invokestatic 183, 3) := by decide +kernel
theorem dX3_many_62 : decode cX3_many 62 = .ok (.ireturn, 1) := by decide +kernel
theorem dX3_many_63 : decode cX3_many 63 = .ok (.aload_n 0, 1) := by decide +kernel
theorem dX3_many_64 : decode cX3_many 64 = .ok (.getfield 10, 3) := by decide +kernel
theorem dX3_many_67 : decode cX3_many 67 = .ok (.invokevirtual 192, 3) := by decide +kernel
theorem dX3_many_70 : decode cX3_many 70 = .ok (.invokestatic 196, 3) := by decide +kernel
theorem dX3_many_73 : decode cX3_many 73 = .ok (.ireturn, 1) := by decide +kernel
theorem dX3_many_74 : decode cX3_many 74 = .ok (.aload_n 0, 1) := by decide +kernel
theorem dX3_many_75 : decode cX3_many 75 = .ok (.getfield 10, 3) := by decide +kernel
theorem dX3_many_78 : decode cX3_many 78 = .ok (.invokevirtual 174, 3) := by decide +kernel
theorem dX3_many_81 : decode cX3_many 81 = .ok (.invokestatic 183, 3) := by decide +kernel
theorem dX3_many_84 : decode cX3_many 84 = .ok (.ireturn, 1) := by decide +kernel
theorem dX3_many_85 : decode cX3_many 85 = .ok (.aload_n 0, 1) := by decide +kernel
theorem dX3_many_86 : decode cX3_many 86 = .ok (.getfield 84, 3) := by decide +kernel
theorem dX3_many_89 : decode cX3_many 89 = .ok (.ireturn, 1) := by decide +kernel
theorem dX3_many_90 : decode cX3_many 90 = .ok (.aload_n 0, 1) := by decide +kernel
theorem dX3_many_91 : decode cX3_many 91 = .ok (.getfield 25, 3) := by decide +kernel
theorem dX3_many_94 : decode cX3_many 94 = .ok (.getfield 66, 3) := by decide +kernel
theorem dX3_many_97 : decode cX3_many 97 = .ok (.ireturn, 1) := by decide +kernel
theorem dX3_many_98 : decode cX3_many 98 = .ok (.aload_n 0, 1) := by decide +kernel
theorem dX3_many_99 : decode cX3_many 99 = .ok (.getfield 58, 3) := by decide +kernel
theorem dX3_many_102 : decode cX3_many 102 = .ok (.getfield 277, 3) := by decide +kernel
theorem dX3_many_105 : decode cX3_many 105 = .ok (.ireturn, 1) := by decide +kernel
theorem dX3_many_106 : decode cX3_many 106 = .ok (.iconst (-1), 1) := by decide +kernel
theorem dX3_many_107 : decode cX3_many 107 = .ok (.ireturn, 1) := by decide +kernel
theorem dX3_keep_0 : decode cX3_keep 0 = .ok (.aload_n 0, 1) := by decide +kernel
theorem dX3_keep_1 : decode cX3_keep 1 = .ok (.getfield 19, 3) := by decide +kernel
theorem dX3_keep_4 : decode cX3_keep 4 = .ok (.aload_n 0, 1) := by decide +kernel
theorem dX3_keep_5 : decode cX3_keep 5 = .ok (.getfield 10, 3) := by decide +kernel
theorem dX3_keep_8 : decode cX3_keep 8 = .ok (.invokevirtual 80, 3) := by decide +kernel
theorem dX3_keep_11 : decode cX3_keep 11 = .ok (.aload_n 0, 1) := by decide +kernel
theorem dX3_keep_12 : decode cX3_keep 12 = .ok (.iconst 1, 1) := by decide +kernel
theorem dX3_keep_13 : decode cX3_keep 13 = .ok (.putfield 281, 3) := by decide +kernel
theorem dX3_keep_16 : decode cX3_keep 16 = .ok (.iconst 1, 1) := by decide +kernel
theorem dX3_keep_17 : decode cX3_keep 17 = .ok (.ireturn, 1) := by decide +kernel
theorem dX3_again_0 : decode cX3_again 0 = .ok (.aload_n 0, 1) := by decide +kernel
theorem dX3_again_1 : decode cX3_again 1 = .ok (.getfield 281, 3) := by decide +kernel
theorem dX3_again_4 : decode cX3_again 4 = .ok (.ifCond .ne 6, 3) := by decide +kernel
theorem dX3_again_7 : decode cX3_again 7 = .ok (.bipush (-3), 2) := by decide +kernel
theorem dX3_again_9 : decode cX3_again 9 = .ok (.ireturn, 1) := by decide +kernel
theorem dX3_again_10 : decode cX3_again 10 = .ok (.aload_n 0, 1) := by decide +kernel
theorem dX3_again_11 : decode cX3_again 11 = .ok (.getfield 10, 3) := by decide +kernel
theorem dX3_again_14 : decode cX3_again 14 = .ok (.aload_n 0, 1) := by decide +kernel
theorem dX3_again_15 : decode cX3_again 15 = .ok (.getfield 19, 3) := by decide +kernel
theorem dX3_again_18 : decode cX3_again 18 = .ok (.invokevirtual 80, 3) := by decide +kernel
theorem dX3_again_21 : decode cX3_again 21 = .ok (.aload_n 0, 1) := by decide +kernel
theorem dX3_again_22 : decode cX3_again 22 = .ok (.getfield 10, 3) := by decide +kernel
theorem dX3_again_25 : decode cX3_again 25 = .ok (.getfield 87, 3) := by decide +kernel
theorem dX3_again_28 : decode cX3_again 28 = .ok (.ireturn, 1) := by decide +kernel
theorem dX3_levelWithout_0 : decode cX3_levelWithout 0 = .ok (.aload_n 0, 1) := by decide +kernel
theorem dX3_levelWithout_1 : decode cX3_levelWithout 1 = .ok (.getfield 16, 3) := by decide +kernel
theorem dX3_levelWithout_4 : decode cX3_levelWithout 4 = .ok (.aload_n 0, 1) := by decide +kernel
theorem dX3_levelWithout_5 : decode cX3_levelWithout 5 = .ok (.getfield 10, 3) := by decide +kernel
theorem dX3_levelWithout_8 : decode cX3_levelWithout 8 = .ok (.invokevirtual 80, 3) := by decide +kernel
theorem dX3_levelWithout_11 : decode cX3_levelWithout 11 = .ok (.aload_n 0, 1) := by decide +kernel
theorem dX3_levelWithout_12 : decode cX3_levelWithout 12 = .ok (.getfield 16, 3) := by decide +kernel
theorem dX3_levelWithout_15 : decode cX3_levelWithout 15 = .ok (.iload_n 1, 1) := by decide +kernel
theorem dX3_levelWithout_16 : decode cX3_levelWithout 16 = .ok (.putfield 285, 3) := by decide +kernel
theorem dX3_levelWithout_19 : decode cX3_levelWithout 19 = .ok (.aload_n 0, 1) := by decide +kernel
theorem dX3_levelWithout_20 : decode cX3_levelWithout 20 = .ok (.getfield 16, 3) := by decide +kernel
theorem dX3_levelWithout_23 : decode cX3_levelWithout 23 = .ok (.iload_n 3, 1) := by decide +kernel
theorem dX3_levelWithout_24 : decode cX3_levelWithout 24 = .ok (.invokevirtual 179, 3) := by decide +kernel
theorem dX3_levelWithout_27 : decode cX3_levelWithout 27 = .ok (.aload_n 0, 1) := by decide +kernel
theorem dX3_levelWithout_28 : decode cX3_levelWithout 28 = .ok (.getfield 16, 3) := by decide +kernel
theorem dX3_levelWithout_31 : decode cX3_levelWithout 31 = .ok (.getfield 145, 3) := by decide +kernel
theorem dX3_levelWithout_34 : decode cX3_levelWithout 34 = .ok (.iload_n 2, 1) := by decide +kernel
theorem dX3_levelWithout_35 : decode cX3_levelWithout 35 = .ok (.iaload, 1) := by decide +kernel
theorem dX3_levelWithout_36 : decode cX3_levelWithout 36 = .ok (.ireturn, 1) := by decide +kernel
theorem dX3_fitsWith_0 : decode cX3_fitsWith 0 = .ok (.aload_n 0, 1) := by decide +kernel
theorem dX3_fitsWith_1 : decode cX3_fitsWith 1 = .ok (.getfield 16, 3) := by decide +kernel
theorem dX3_fitsWith_4 : decode cX3_fitsWith 4 = .ok (.aload_n 0, 1) := by decide +kernel
theorem dX3_fitsWith_5 : decode cX3_fitsWith 5 = .ok (.getfield 10, 3) := by decide +kernel
theorem dX3_fitsWith_8 : decode cX3_fitsWith 8 = .ok (.invokevirtual 80, 3) := by decide +kernel
theorem dX3_fitsWith_11 : decode cX3_fitsWith 11 = .ok (.aload_n 0, 1) := by decide +kernel
theorem dX3_fitsWith_12 : decode cX3_fitsWith 12 = .ok (.getfield 16, 3) := by decide +kernel
theorem dX3_fitsWith_15 : decode cX3_fitsWith 15 = .ok (.getfield 123, 3) := by decide +kernel
theorem dX3_fitsWith_18 : decode cX3_fitsWith 18 = .ok (.iload_n 2, 1) := by decide +kernel
theorem dX3_fitsWith_19 : decode cX3_fitsWith 19 = .ok (.iload_n 1, 1) := by decide +kernel
theorem dX3_fitsWith_20 : decode cX3_fitsWith 20 = .ok (.iastore, 1) := by decide +kernel
theorem dX3_fitsWith_21 : decode cX3_fitsWith 21 = .ok (.iconst 0, 1) := by decide +kernel
theorem dX3_fitsWith_22 : decode cX3_fitsWith 22 = .ok (.istore 5, 2) := by decide +kernel
theorem dX3_fitsWith_24 : decode cX3_fitsWith 24 = .ok (.iload 5, 2) := by decide +kernel
theorem dX3_fitsWith_26 : decode cX3_fitsWith 26 = .ok (.aload_n 0, 1) := by decide +kernel
theorem dX3_fitsWith_27 : decode cX3_fitsWith 27 = .ok (.getfield 38, 3) := by decide +kernel
theorem dX3_fitsWith_30 : decode cX3_fitsWith 30 = .ok (.iload 4, 2) := by decide +kernel
theorem dX3_fitsWith_32 : decode cX3_fitsWith 32 = .ok (.iaload, 1) := by decide +kernel
theorem dX3_fitsWith_33 : decode cX3_fitsWith 33 = .ok (.if_icmp .ge 55, 3) := by decide +kernel
theorem dX3_fitsWith_36 : decode cX3_fitsWith 36 = .ok (.aload_n 0, 1) := by decide +kernel
theorem dX3_fitsWith_37 : decode cX3_fitsWith 37 = .ok (.getfield 16, 3) := by decide +kernel
theorem dX3_fitsWith_40 : decode cX3_fitsWith 40 = .ok (.invokevirtual 215, 3) := by decide +kernel
theorem dX3_fitsWith_43 : decode cX3_fitsWith 43 = .ok (.aload_n 0, 1) := by decide +kernel
theorem dX3_fitsWith_44 : decode cX3_fitsWith 44 = .ok (.getfield 43, 3) := by decide +kernel
theorem dX3_fitsWith_47 : decode cX3_fitsWith 47 = .ok (.iload 4, 2) := by decide +kernel
theorem dX3_fitsWith_49 : decode cX3_fitsWith 49 = .ok (.aaload, 1) := by decide +kernel
theorem dX3_fitsWith_50 : decode cX3_fitsWith 50 = .ok (.iload 5, 2) := by decide +kernel
theorem dX3_fitsWith_52 : decode cX3_fitsWith 52 = .ok (.laload, 1) := by decide +kernel
theorem dX3_fitsWith_53 : decode cX3_fitsWith 53 = .ok (.lstore 6, 2) := by decide +kernel
theorem dX3_fitsWith_55 : decode cX3_fitsWith 55 = .ok (.lload 6, 2) := by decide +kernel
theorem dX3_fitsWith_57 : decode cX3_fitsWith 57 = .ok (.ldc2_w 177, 3) := by decide +kernel
theorem dX3_fitsWith_60 : decode cX3_fitsWith 60 = .ok (.lcmp, 1) := by decide +kernel
theorem dX3_fitsWith_61 : decode cX3_fitsWith 61 = .ok (.ifCond .eq 21, 3) := by decide +kernel
theorem dX3_fitsWith_64 : decode cX3_fitsWith 64 = .ok (.lload 6, 2) := by decide +kernel
theorem dX3_fitsWith_66 : decode cX3_fitsWith 66 = .ok (.aload_n 0, 1) := by decide +kernel
theorem dX3_fitsWith_67 : decode cX3_fitsWith 67 = .ok (.getfield 16, 3) := by decide +kernel
theorem dX3_fitsWith_70 : decode cX3_fitsWith 70 = .ok (.getfield 145, 3) := by decide +kernel
theorem dX3_fitsWith_73 : decode cX3_fitsWith 73 = .ok (.iload_n 3, 1) := by decide +kernel
theorem dX3_fitsWith_74 : decode cX3_fitsWith 74 = .ok (.iaload, 1) := by decide +kernel
theorem dX3_fitsWith_75 : decode cX3_fitsWith 75 = .ok (.i2l, 1) := by decide +kernel
theorem dX3_fitsWith_76 : decode cX3_fitsWith 76 = .ok (.lcmp, 1) := by decide +kernel
theorem dX3_fitsWith_77 : decode cX3_fitsWith 77 = .ok (.ifCond .eq 5, 3) := by decide +kernel
theorem dX3_fitsWith_80 : decode cX3_fitsWith 80 = .ok (.iconst 0, 1) := by decide +kernel
theorem dX3_fitsWith_81 : decode cX3_fitsWith 81 = .ok (.ireturn, 1) := by decide +kernel
theorem dX3_fitsWith_82 : decode cX3_fitsWith 82 = .ok (.iinc 5 1, 3) := by decide +kernel
theorem dX3_fitsWith_85 : decode cX3_fitsWith 85 = .ok (.goto (-61), 3) := by decide +kernel
theorem dX3_fitsWith_88 : decode cX3_fitsWith 88 = .ok (.iconst 1, 1) := by decide +kernel
theorem dX3_fitsWith_89 : decode cX3_fitsWith 89 = .ok (.ireturn, 1) := by decide +kernel
theorem dX3_shelve_0 : decode cX3_shelve 0 = .ok (.aload_n 0, 1) := by decide +kernel
theorem dX3_shelve_1 : decode cX3_shelve 1 = .ok (.getfield 46, 3) := by decide +kernel
theorem dX3_shelve_4 : decode cX3_shelve 4 = .ok (.iload_n 1, 1) := by decide +kernel
theorem dX3_shelve_5 : decode cX3_shelve 5 = .ok (.iload_n 2, 1) := by decide +kernel
theorem dX3_shelve_6 : decode cX3_shelve 6 = .ok (.iastore, 1) := by decide +kernel
theorem dX3_shelve_7 : decode cX3_shelve 7 = .ok (.aload_n 0, 1) := by decide +kernel
theorem dX3_shelve_8 : decode cX3_shelve 8 = .ok (.getfield 49, 3) := by decide +kernel
theorem dX3_shelve_11 : decode cX3_shelve 11 = .ok (.iload_n 1, 1) := by decide +kernel
theorem dX3_shelve_12 : decode cX3_shelve 12 = .ok (.iload_n 3, 1) := by decide +kernel
theorem dX3_shelve_13 : decode cX3_shelve 13 = .ok (.iastore, 1) := by decide +kernel
theorem dX3_shelve_14 : decode cX3_shelve 14 = .ok (.aload_n 0, 1) := by decide +kernel
theorem dX3_shelve_15 : decode cX3_shelve 15 = .ok (.getfield 52, 3) := by decide +kernel
theorem dX3_shelve_18 : decode cX3_shelve 18 = .ok (.iload_n 1, 1) := by decide +kernel
theorem dX3_shelve_19 : decode cX3_shelve 19 = .ok (.iload 4, 2) := by decide +kernel
theorem dX3_shelve_21 : decode cX3_shelve 21 = .ok (.iastore, 1) := by decide +kernel
theorem dX3_shelve_22 : decode cX3_shelve 22 = .ok (.iconst 1, 1) := by decide +kernel
theorem dX3_shelve_23 : decode cX3_shelve 23 = .ok (.ireturn, 1) := by decide +kernel
theorem dX3_holdsRow_0 : decode cX3_holdsRow 0 = .ok (.aload_n 0, 1) := by decide +kernel
theorem dX3_holdsRow_1 : decode cX3_holdsRow 1 = .ok (.getfield 46, 3) := by decide +kernel
theorem dX3_holdsRow_4 : decode cX3_holdsRow 4 = .ok (.iload_n 1, 1) := by decide +kernel
theorem dX3_holdsRow_5 : decode cX3_holdsRow 5 = .ok (.iaload, 1) := by decide +kernel
theorem dX3_holdsRow_6 : decode cX3_holdsRow 6 = .ok (.iconst 1, 1) := by decide +kernel
theorem dX3_holdsRow_7 : decode cX3_holdsRow 7 = .ok (.if_icmp .ne 7, 3) := by decide +kernel
theorem dX3_holdsRow_10 : decode cX3_holdsRow 10 = .ok (.iconst 1, 1) := by decide +kernel
theorem dX3_holdsRow_11 : decode cX3_holdsRow 11 = .ok (.goto 4, 3) := by decide +kernel
theorem dX3_holdsRow_14 : decode cX3_holdsRow 14 = .ok (.iconst 0, 1) := by decide +kernel
theorem dX3_holdsRow_15 : decode cX3_holdsRow 15 = .ok (.ireturn, 1) := by decide +kernel
theorem dX3_holdsPerson_0 : decode cX3_holdsPerson 0 = .ok (.aload_n 0, 1) := by decide +kernel
theorem dX3_holdsPerson_1 : decode cX3_holdsPerson 1 = .ok (.getfield 46, 3) := by decide +kernel
theorem dX3_holdsPerson_4 : decode cX3_holdsPerson 4 = .ok (.iload_n 1, 1) := by decide +kernel
theorem dX3_holdsPerson_5 : decode cX3_holdsPerson 5 = .ok (.iaload, 1) := by decide +kernel
theorem dX3_holdsPerson_6 : decode cX3_holdsPerson 6 = .ok (.ifCond .ne 20, 3) := by decide +kernel
theorem dX3_holdsPerson_9 : decode cX3_holdsPerson 9 = .ok (.aload_n 0, 1) := by decide +kernel
theorem dX3_holdsPerson_10 : decode cX3_holdsPerson 10 = .ok (.aload_n 0, 1) := by decide +kernel
theorem dX3_holdsPerson_11 : decode cX3_holdsPerson 11 = .ok (.getfield 49, 3) := by decide +kernel
theorem dX3_holdsPerson_14 : decode cX3_holdsPerson 14 = .ok (.iload_n 1, 1) := by decide +kernel
theorem dX3_holdsPerson_15 : decode cX3_holdsPerson 15 = .ok (.iaload, 1) := by decide +kernel
theorem dX3_holdsPerson_16 : decode cX3_holdsPerson 16 = .ok (.invokevirtual 114, 3) := by decide +kernel
theorem dX3_holdsPerson_19 : decode cX3_holdsPerson 19 = .ok (.ifCond .eq 7, 3) := by decide +kernel
theorem dX3_holdsPerson_22 : decode cX3_holdsPerson 22 = .ok (.iconst 1, 1) := by decide +kernel
theorem dX3_holdsPerson_23 : decode cX3_holdsPerson 23 = .ok (.goto 4, 3) := by decide +kernel
theorem dX3_holdsPerson_26 : decode cX3_holdsPerson 26 = .ok (.iconst 0, 1) := by decide +kernel
theorem dX3_holdsPerson_27 : decode cX3_holdsPerson 27 = .ok (.ireturn, 1) := by decide +kernel
theorem dX3_isPerson_0 : decode cX3_isPerson 0 = .ok (.iload_n 1, 1) := by decide +kernel
theorem dX3_isPerson_1 : decode cX3_isPerson 1 = .ok (.ifCond .lt 18, 3) := by decide +kernel
theorem dX3_isPerson_4 : decode cX3_isPerson 4 = .ok (.iload_n 1, 1) := by decide +kernel
theorem dX3_isPerson_5 : decode cX3_isPerson 5 = .ok (.aload_n 0, 1) := by decide +kernel
theorem dX3_isPerson_6 : decode cX3_isPerson 6 = .ok (.getfield 10, 3) := by decide +kernel
theorem dX3_isPerson_9 : decode cX3_isPerson 9 = .ok (.getfield 87, 3) := by decide +kernel
theorem dX3_isPerson_12 : decode cX3_isPerson 12 = .ok (.if_icmp .ge 7, 3) := by decide +kernel
theorem dX3_isPerson_15 : decode cX3_isPerson 15 = .ok (.iconst 1, 1) := by decide +kernel
theorem dX3_isPerson_16 : decode cX3_isPerson 16 = .ok (.goto 4, 3) := by decide +kernel
theorem dX3_isPerson_19 : decode cX3_isPerson 19 = .ok (.iconst 0, 1) := by decide +kernel
theorem dX3_isPerson_20 : decode cX3_isPerson 20 = .ok (.ireturn, 1) := by decide +kernel
theorem dX3_isRowPart_0 : decode cX3_isRowPart 0 = .ok (.iload_n 1, 1) := by decide +kernel
theorem dX3_isRowPart_1 : decode cX3_isRowPart 1 = .ok (.ifCond .lt 24, 3) := by decide +kernel
theorem dX3_isRowPart_4 : decode cX3_isRowPart 4 = .ok (.iload_n 1, 1) := by decide +kernel
theorem dX3_isRowPart_5 : decode cX3_isRowPart 5 = .ok (.aload_n 0, 1) := by decide +kernel
theorem dX3_isRowPart_6 : decode cX3_isRowPart 6 = .ok (.getfield 84, 3) := by decide +kernel
theorem dX3_isRowPart_9 : decode cX3_isRowPart 9 = .ok (.if_icmp .ge 16, 3) := by decide +kernel
theorem dX3_isRowPart_12 : decode cX3_isRowPart 12 = .ok (.iload_n 2, 1) := by decide +kernel
theorem dX3_isRowPart_13 : decode cX3_isRowPart 13 = .ok (.ifCond .lt 12, 3) := by decide +kernel
theorem dX3_isRowPart_16 : decode cX3_isRowPart 16 = .ok (.iload_n 2, 1) := by decide +kernel
theorem dX3_isRowPart_17 : decode cX3_isRowPart 17 = .ok (.iconst 3, 1) := by decide +kernel
theorem dX3_isRowPart_18 : decode cX3_isRowPart 18 = .ok (.if_icmp .ge 7, 3) := by decide +kernel
theorem dX3_isRowPart_21 : decode cX3_isRowPart 21 = .ok (.iconst 1, 1) := by decide +kernel
theorem dX3_isRowPart_22 : decode cX3_isRowPart 22 = .ok (.goto 4, 3) := by decide +kernel
theorem dX3_isRowPart_25 : decode cX3_isRowPart 25 = .ok (.iconst 0, 1) := by decide +kernel
theorem dX3_isRowPart_26 : decode cX3_isRowPart 26 = .ok (.ireturn, 1) := by decide +kernel
theorem dX3_isWithin_0 : decode cX3_isWithin 0 = .ok (.iload_n 0, 1) := by decide +kernel
theorem dX3_isWithin_1 : decode cX3_isWithin 1 = .ok (.ifCond .lt 12, 3) := by decide +kernel
theorem dX3_isWithin_4 : decode cX3_isWithin 4 = .ok (.iload_n 0, 1) := by decide +kernel
theorem dX3_isWithin_5 : decode cX3_isWithin 5 = .ok (.iload_n 1, 1) := by decide +kernel
theorem dX3_isWithin_6 : decode cX3_isWithin 6 = .ok (.if_icmp .gt 7, 3) := by decide +kernel
theorem dX3_isWithin_9 : decode cX3_isWithin 9 = .ok (.iconst 1, 1) := by decide +kernel
theorem dX3_isWithin_10 : decode cX3_isWithin 10 = .ok (.goto 4, 3) := by decide +kernel
theorem dX3_isWithin_13 : decode cX3_isWithin 13 = .ok (.iconst 0, 1) := by decide +kernel
theorem dX3_isWithin_14 : decode cX3_isWithin 14 = .ok (.ireturn, 1) := by decide +kernel
theorem dX3_isShortTime_0 : decode cX3_isShortTime 0 = .ok (.iload_n 0, 1) := by decide +kernel
theorem dX3_isShortTime_1 : decode cX3_isShortTime 1 = .ok (.iconst 1, 1) := by decide +kernel
theorem dX3_isShortTime_2 : decode cX3_isShortTime 2 = .ok (.if_icmp .lt 13, 3) := by decide +kernel
theorem dX3_isShortTime_5 : decode cX3_isShortTime 5 = .ok (.iload_n 0, 1) := by decide +kernel
theorem dX3_isShortTime_6 : decode cX3_isShortTime 6 = .ok (.bipush 20, 2) := by decide +kernel
theorem dX3_isShortTime_8 : decode cX3_isShortTime 8 = .ok (.if_icmp .gt 7, 3) := by decide +kernel
theorem dX3_isShortTime_11 : decode cX3_isShortTime 11 = .ok (.iconst 1, 1) := by decide +kernel
theorem dX3_isShortTime_12 : decode cX3_isShortTime 12 = .ok (.goto 4, 3) := by decide +kernel
theorem dX3_isShortTime_15 : decode cX3_isShortTime 15 = .ok (.iconst 0, 1) := by decide +kernel
theorem dX3_isShortTime_16 : decode cX3_isShortTime 16 = .ok (.ireturn, 1) := by decide +kernel
theorem dX3_isCell_0 : decode cX3_isCell 0 = .ok (.iload_n 0, 1) := by decide +kernel
theorem dX3_isCell_1 : decode cX3_isCell 1 = .ok (.ifCond .lt 13, 3) := by decide +kernel
theorem dX3_isCell_4 : decode cX3_isCell 4 = .ok (.iload_n 0, 1) := by decide +kernel
theorem dX3_isCell_5 : decode cX3_isCell 5 = .ok (.bipush 32, 2) := by decide +kernel
theorem dX3_isCell_7 : decode cX3_isCell 7 = .ok (.if_icmp .ge 7, 3) := by decide +kernel
theorem dX3_isCell_10 : decode cX3_isCell 10 = .ok (.iconst 1, 1) := by decide +kernel
theorem dX3_isCell_11 : decode cX3_isCell 11 = .ok (.goto 4, 3) := by decide +kernel
theorem dX3_isCell_14 : decode cX3_isCell 14 = .ok (.iconst 0, 1) := by decide +kernel
theorem dX3_isCell_15 : decode cX3_isCell 15 = .ok (.ireturn, 1) := by decide +kernel
theorem dX3_isKind_0 : decode cX3_isKind 0 = .ok (.iload_n 0, 1) := by decide +kernel
theorem dX3_isKind_1 : decode cX3_isKind 1 = .ok (.ifCond .lt 13, 3) := by decide +kernel
theorem dX3_isKind_4 : decode cX3_isKind 4 = .ok (.iload_n 0, 1) := by decide +kernel
theorem dX3_isKind_5 : decode cX3_isKind 5 = .ok (.bipush 6, 2) := by decide +kernel
theorem dX3_isKind_7 : decode cX3_isKind 7 = .ok (.if_icmp .ge 7, 3) := by decide +kernel
theorem dX3_isKind_10 : decode cX3_isKind 10 = .ok (.iconst 1, 1) := by decide +kernel
theorem dX3_isKind_11 : decode cX3_isKind 11 = .ok (.goto 4, 3) := by decide +kernel
theorem dX3_isKind_14 : decode cX3_isKind 14 = .ok (.iconst 0, 1) := by decide +kernel
theorem dX3_isKind_15 : decode cX3_isKind 15 = .ok (.ireturn, 1) := by decide +kernel
theorem dX3_isLaw_0 : decode cX3_isLaw 0 = .ok (.iload_n 0, 1) := by decide +kernel
theorem dX3_isLaw_1 : decode cX3_isLaw 1 = .ok (.ifCond .lt 12, 3) := by decide +kernel
theorem dX3_isLaw_4 : decode cX3_isLaw 4 = .ok (.iload_n 0, 1) := by decide +kernel
theorem dX3_isLaw_5 : decode cX3_isLaw 5 = .ok (.iconst 4, 1) := by decide +kernel
theorem dX3_isLaw_6 : decode cX3_isLaw 6 = .ok (.if_icmp .ge 7, 3) := by decide +kernel
theorem dX3_isLaw_9 : decode cX3_isLaw 9 = .ok (.iconst 1, 1) := by decide +kernel
theorem dX3_isLaw_10 : decode cX3_isLaw 10 = .ok (.goto 4, 3) := by decide +kernel
theorem dX3_isLaw_13 : decode cX3_isLaw 13 = .ok (.iconst 0, 1) := by decide +kernel
theorem dX3_isLaw_14 : decode cX3_isLaw 14 = .ok (.ireturn, 1) := by decide +kernel
theorem dX3_isSheet_0 : decode cX3_isSheet 0 = .ok (.iload_n 0, 1) := by decide +kernel
theorem dX3_isSheet_1 : decode cX3_isSheet 1 = .ok (.ifCond .lt 12, 3) := by decide +kernel
theorem dX3_isSheet_4 : decode cX3_isSheet 4 = .ok (.iload_n 0, 1) := by decide +kernel
theorem dX3_isSheet_5 : decode cX3_isSheet 5 = .ok (.iconst 4, 1) := by decide +kernel
theorem dX3_isSheet_6 : decode cX3_isSheet 6 = .ok (.if_icmp .ge 7, 3) := by decide +kernel
theorem dX3_isSheet_9 : decode cX3_isSheet 9 = .ok (.iconst 1, 1) := by decide +kernel
theorem dX3_isSheet_10 : decode cX3_isSheet 10 = .ok (.goto 4, 3) := by decide +kernel
theorem dX3_isSheet_13 : decode cX3_isSheet 13 = .ok (.iconst 0, 1) := by decide +kernel
theorem dX3_isSheet_14 : decode cX3_isSheet 14 = .ok (.ireturn, 1) := by decide +kernel
theorem dX3_isSort_0 : decode cX3_isSort 0 = .ok (.iload_n 0, 1) := by decide +kernel
theorem dX3_isSort_1 : decode cX3_isSort 1 = .ok (.ifCond .lt 12, 3) := by decide +kernel
theorem dX3_isSort_4 : decode cX3_isSort 4 = .ok (.iload_n 0, 1) := by decide +kernel
theorem dX3_isSort_5 : decode cX3_isSort 5 = .ok (.iconst 4, 1) := by decide +kernel
theorem dX3_isSort_6 : decode cX3_isSort 6 = .ok (.if_icmp .ge 7, 3) := by decide +kernel
theorem dX3_isSort_9 : decode cX3_isSort 9 = .ok (.iconst 1, 1) := by decide +kernel
theorem dX3_isSort_10 : decode cX3_isSort 10 = .ok (.goto 4, 3) := by decide +kernel
theorem dX3_isSort_13 : decode cX3_isSort 13 = .ok (.iconst 0, 1) := by decide +kernel
theorem dX3_isSort_14 : decode cX3_isSort 14 = .ok (.ireturn, 1) := by decide +kernel
theorem dX3_isShelf_0 : decode cX3_isShelf 0 = .ok (.iload_n 0, 1) := by decide +kernel
theorem dX3_isShelf_1 : decode cX3_isShelf 1 = .ok (.ifCond .lt 12, 3) := by decide +kernel
theorem dX3_isShelf_4 : decode cX3_isShelf 4 = .ok (.iload_n 0, 1) := by decide +kernel
theorem dX3_isShelf_5 : decode cX3_isShelf 5 = .ok (.iconst 4, 1) := by decide +kernel
theorem dX3_isShelf_6 : decode cX3_isShelf 6 = .ok (.if_icmp .ge 7, 3) := by decide +kernel
theorem dX3_isShelf_9 : decode cX3_isShelf 9 = .ok (.iconst 1, 1) := by decide +kernel
theorem dX3_isShelf_10 : decode cX3_isShelf 10 = .ok (.goto 4, 3) := by decide +kernel
theorem dX3_isShelf_13 : decode cX3_isShelf 13 = .ok (.iconst 0, 1) := by decide +kernel
theorem dX3_isShelf_14 : decode cX3_isShelf 14 = .ok (.ireturn, 1) := by decide +kernel
theorem dX3_isUnder_0 : decode cX3_isUnder 0 = .ok (.iload_n 0, 1) := by decide +kernel
theorem dX3_isUnder_1 : decode cX3_isUnder 1 = .ok (.istore_n 2, 1) := by decide +kernel
theorem dX3_isUnder_2 : decode cX3_isUnder 2 = .ok (.iconst 0, 1) := by decide +kernel
theorem dX3_isUnder_3 : decode cX3_isUnder 3 = .ok (.istore_n 3, 1) := by decide +kernel
theorem dX3_isUnder_4 : decode cX3_isUnder 4 = .ok (.iload_n 3, 1) := by decide +kernel
theorem dX3_isUnder_5 : decode cX3_isUnder 5 = .ok (.bipush 6, 2) := by decide +kernel
theorem dX3_isUnder_7 : decode cX3_isUnder 7 = .ok (.if_icmp .ge 24, 3) := by decide +kernel
theorem dX3_isUnder_10 : decode cX3_isUnder 10 = .ok (.iload_n 2, 1) := by decide +kernel
theorem dX3_isUnder_11 : decode cX3_isUnder 11 = .ok (.ifCond .lt 20, 3) := by decide +kernel
theorem dX3_isUnder_14 : decode cX3_isUnder 14 = .ok (.iload_n 2, 1) := by decide +kernel
theorem dX3_isUnder_15 : decode cX3_isUnder 15 = .ok (.iload_n 1, 1) := by decide +kernel
theorem dX3_isUnder_16 : decode cX3_isUnder 16 = .ok (.if_icmp .eq 15, 3) := by decide +kernel
theorem dX3_isUnder_19 : decode cX3_isUnder 19 = .ok (.getstatic 288, 3) := by decide +kernel
theorem dX3_isUnder_22 : decode cX3_isUnder 22 = .ok (.iload_n 2, 1) := by decide +kernel
theorem dX3_isUnder_23 : decode cX3_isUnder 23 = .ok (.iaload, 1) := by decide +kernel
theorem dX3_isUnder_24 : decode cX3_isUnder 24 = .ok (.istore_n 2, 1) := by decide +kernel
theorem dX3_isUnder_25 : decode cX3_isUnder 25 = .ok (.iinc 3 1, 3) := by decide +kernel
theorem dX3_isUnder_28 : decode cX3_isUnder 28 = .ok (.goto (-24), 3) := by decide +kernel
theorem dX3_isUnder_31 : decode cX3_isUnder 31 = .ok (.iload_n 2, 1) := by decide +kernel
theorem dX3_isUnder_32 : decode cX3_isUnder 32 = .ok (.iload_n 1, 1) := by decide +kernel
theorem dX3_isUnder_33 : decode cX3_isUnder 33 = .ok (.if_icmp .ne 7, 3) := by decide +kernel
theorem dX3_isUnder_36 : decode cX3_isUnder 36 = .ok (.iconst 1, 1) := by decide +kernel
theorem dX3_isUnder_37 : decode cX3_isUnder 37 = .ok (.goto 4, 3) := by decide +kernel
theorem dX3_isUnder_40 : decode cX3_isUnder 40 = .ok (.iconst 0, 1) := by decide +kernel
theorem dX3_isUnder_41 : decode cX3_isUnder 41 = .ok (.ireturn, 1) := by decide +kernel
theorem dX3_heldSure_0 : decode cX3_heldSure 0 = .ok (.iconst 0, 1) := by decide +kernel
theorem dX3_heldSure_1 : decode cX3_heldSure 1 = .ok (.bipush 99, 2) := by decide +kernel
theorem dX3_heldSure_3 : decode cX3_heldSure 3 = .ok (.iload_n 0, 1) := by decide +kernel
theorem dX3_heldSure_4 : decode cX3_heldSure 4 = .ok (.invokestatic 291, 3) := by decide +kernel
theorem dX3_heldSure_7 : decode cX3_heldSure 7 = .ok (.invokestatic 296, 3) := by decide +kernel
theorem dX3_heldSure_10 : decode cX3_heldSure 10 = .ok (.ireturn, 1) := by decide +kernel
theorem dX3_narrowed_0 : decode cX3_narrowed 0 = .ok (.iload_n 1, 1) := by decide +kernel
theorem dX3_narrowed_1 : decode cX3_narrowed 1 = .ok (.lookupswitch 35 #[(0, 27), (1, 31)], 27) := by decide +kernel
theorem dX3_narrowed_28 : decode cX3_narrowed 28 = .ok (.iload_n 0, 1) := by decide +kernel
theorem dX3_narrowed_29 : decode cX3_narrowed 29 = .ok (.i2b, 1) := by decide +kernel
theorem dX3_narrowed_30 : decode cX3_narrowed 30 = .ok (.i2l, 1) := by decide +kernel
theorem dX3_narrowed_31 : decode cX3_narrowed 31 = .ok (.lreturn, 1) := by decide +kernel
theorem dX3_narrowed_32 : decode cX3_narrowed 32 = .ok (.iload_n 0, 1) := by decide +kernel
theorem dX3_narrowed_33 : decode cX3_narrowed 33 = .ok (.i2s, 1) := by decide +kernel
theorem dX3_narrowed_34 : decode cX3_narrowed 34 = .ok (.i2l, 1) := by decide +kernel
theorem dX3_narrowed_35 : decode cX3_narrowed 35 = .ok (.lreturn, 1) := by decide +kernel
theorem dX3_narrowed_36 : decode cX3_narrowed 36 = .ok (.iload_n 0, 1) := by decide +kernel
theorem dX3_narrowed_37 : decode cX3_narrowed 37 = .ok (.i2l, 1) := by decide +kernel
theorem dX3_narrowed_38 : decode cX3_narrowed 38 = .ok (.lreturn, 1) := by decide +kernel
theorem dX3_partOf_0 : decode cX3_partOf 0 = .ok (.lload_n 2, 1) := by decide +kernel
theorem dX3_partOf_1 : decode cX3_partOf 1 = .ok (.lstore 5, 2) := by decide +kernel
theorem dX3_partOf_3 : decode cX3_partOf 3 = .ok (.lload_n 0, 1) := by decide +kernel
theorem dX3_partOf_4 : decode cX3_partOf 4 = .ok (.lstore 7, 2) := by decide +kernel
theorem dX3_partOf_6 : decode cX3_partOf 6 = .ok (.iconst 0, 1) := by decide +kernel
theorem dX3_partOf_7 : decode cX3_partOf 7 = .ok (.istore 9, 2) := by decide +kernel
theorem dX3_partOf_9 : decode cX3_partOf 9 = .ok (.iload 9, 2) := by decide +kernel
theorem dX3_partOf_11 : decode cX3_partOf 11 = .ok (.bipush 100, 2) := by decide +kernel
theorem dX3_partOf_13 : decode cX3_partOf 13 = .ok (.if_icmp .ge 31, 3) := by decide +kernel
theorem dX3_partOf_16 : decode cX3_partOf 16 = .ok (.lload 7, 2) := by decide +kernel
theorem dX3_partOf_18 : decode cX3_partOf 18 = .ok (.lconst 0, 1) := by decide +kernel
theorem dX3_partOf_19 : decode cX3_partOf 19 = .ok (.lcmp, 1) := by decide +kernel
theorem dX3_partOf_20 : decode cX3_partOf 20 = .ok (.ifCond .eq 24, 3) := by decide +kernel
theorem dX3_partOf_23 : decode cX3_partOf 23 = .ok (.lload 5, 2) := by decide +kernel
theorem dX3_partOf_25 : decode cX3_partOf 25 = .ok (.lload 7, 2) := by decide +kernel
theorem dX3_partOf_27 : decode cX3_partOf 27 = .ok (.lrem, 1) := by decide +kernel
theorem dX3_partOf_28 : decode cX3_partOf 28 = .ok (.lstore 10, 2) := by decide +kernel
theorem dX3_partOf_30 : decode cX3_partOf 30 = .ok (.lload 7, 2) := by decide +kernel
theorem dX3_partOf_32 : decode cX3_partOf 32 = .ok (.lstore 5, 2) := by decide +kernel
theorem dX3_partOf_34 : decode cX3_partOf 34 = .ok (.lload 10, 2) := by decide +kernel
theorem dX3_partOf_36 : decode cX3_partOf 36 = .ok (.lstore 7, 2) := by decide +kernel
theorem dX3_partOf_38 : decode cX3_partOf 38 = .ok (.iinc 9 1, 3) := by decide +kernel
theorem dX3_partOf_41 : decode cX3_partOf 41 = .ok (.goto (-32), 3) := by decide +kernel
theorem dX3_partOf_44 : decode cX3_partOf 44 = .ok (.lload 5, 2) := by decide +kernel
theorem dX3_partOf_46 : decode cX3_partOf 46 = .ok (.lconst 0, 1) := by decide +kernel
theorem dX3_partOf_47 : decode cX3_partOf 47 = .ok (.lcmp, 1) := by decide +kernel
theorem dX3_partOf_48 : decode cX3_partOf 48 = .ok (.ifCond .ne 7, 3) := by decide +kernel
theorem dX3_partOf_51 : decode cX3_partOf 51 = .ok (.ldc2_w 177, 3) := by decide +kernel
theorem dX3_partOf_54 : decode cX3_partOf 54 = .ok (.lreturn, 1) := by decide +kernel
theorem dX3_partOf_55 : decode cX3_partOf 55 = .ok (.iload 4, 2) := by decide +kernel
theorem dX3_partOf_57 : decode cX3_partOf 57 = .ok (.ifCond .ne 7, 3) := by decide +kernel
theorem dX3_partOf_60 : decode cX3_partOf 60 = .ok (.lload_n 0, 1) := by decide +kernel
theorem dX3_partOf_61 : decode cX3_partOf 61 = .ok (.goto 4, 3) := by decide +kernel
theorem dX3_partOf_64 : decode cX3_partOf 64 = .ok (.lload_n 2, 1) := by decide +kernel
theorem dX3_partOf_65 : decode cX3_partOf 65 = .ok (.lload 5, 2) := by decide +kernel
theorem dX3_partOf_67 : decode cX3_partOf 67 = .ok (.ldiv, 1) := by decide +kernel
theorem dX3_partOf_68 : decode cX3_partOf 68 = .ok (.lreturn, 1) := by decide +kernel
theorem dJ6_bitCount_0f7a4_0 : decode cJ6_bitCount_0f7a4 0 = .ok (.iload_n 0, 1) := by decide +kernel
theorem dJ6_bitCount_0f7a4_1 : decode cJ6_bitCount_0f7a4 1 = .ok (.iload_n 0, 1) := by decide +kernel
theorem dJ6_bitCount_0f7a4_2 : decode cJ6_bitCount_0f7a4 2 = .ok (.iconst 1, 1) := by decide +kernel
theorem dJ6_bitCount_0f7a4_3 : decode cJ6_bitCount_0f7a4 3 = .ok (.iushr, 1) := by decide +kernel
theorem dJ6_bitCount_0f7a4_4 : decode cJ6_bitCount_0f7a4 4 = .ok (.ldc_w 265, 3) := by decide +kernel
theorem dJ6_bitCount_0f7a4_7 : decode cJ6_bitCount_0f7a4 7 = .ok (.iand, 1) := by decide +kernel
theorem dJ6_bitCount_0f7a4_8 : decode cJ6_bitCount_0f7a4 8 = .ok (.isub, 1) := by decide +kernel
theorem dJ6_bitCount_0f7a4_9 : decode cJ6_bitCount_0f7a4 9 = .ok (.istore_n 0, 1) := by decide +kernel
theorem dJ6_bitCount_0f7a4_10 : decode cJ6_bitCount_0f7a4 10 = .ok (.iload_n 0, 1) := by decide +kernel
theorem dJ6_bitCount_0f7a4_11 : decode cJ6_bitCount_0f7a4 11 = .ok (.ldc_w 266, 3) := by decide +kernel
theorem dJ6_bitCount_0f7a4_14 : decode cJ6_bitCount_0f7a4 14 = .ok (.iand, 1) := by decide +kernel
theorem dJ6_bitCount_0f7a4_15 : decode cJ6_bitCount_0f7a4 15 = .ok (.iload_n 0, 1) := by decide +kernel
theorem dJ6_bitCount_0f7a4_16 : decode cJ6_bitCount_0f7a4 16 = .ok (.iconst 2, 1) := by decide +kernel
theorem dJ6_bitCount_0f7a4_17 : decode cJ6_bitCount_0f7a4 17 = .ok (.iushr, 1) := by decide +kernel
theorem dJ6_bitCount_0f7a4_18 : decode cJ6_bitCount_0f7a4 18 = .ok (.ldc_w 266, 3) := by decide +kernel
theorem dJ6_bitCount_0f7a4_21 : decode cJ6_bitCount_0f7a4 21 = .ok (.iand, 1) := by decide +kernel
theorem dJ6_bitCount_0f7a4_22 : decode cJ6_bitCount_0f7a4 22 = .ok (.iadd, 1) := by decide +kernel
theorem dJ6_bitCount_0f7a4_23 : decode cJ6_bitCount_0f7a4 23 = .ok (.istore_n 0, 1) := by decide +kernel
theorem dJ6_bitCount_0f7a4_24 : decode cJ6_bitCount_0f7a4 24 = .ok (.iload_n 0, 1) := by decide +kernel
theorem dJ6_bitCount_0f7a4_25 : decode cJ6_bitCount_0f7a4 25 = .ok (.iload_n 0, 1) := by decide +kernel
theorem dJ6_bitCount_0f7a4_26 : decode cJ6_bitCount_0f7a4 26 = .ok (.iconst 4, 1) := by decide +kernel
theorem dJ6_bitCount_0f7a4_27 : decode cJ6_bitCount_0f7a4 27 = .ok (.iushr, 1) := by decide +kernel
theorem dJ6_bitCount_0f7a4_28 : decode cJ6_bitCount_0f7a4 28 = .ok (.iadd, 1) := by decide +kernel
theorem dJ6_bitCount_0f7a4_29 : decode cJ6_bitCount_0f7a4 29 = .ok (.ldc_w 267, 3) := by decide +kernel
theorem dJ6_bitCount_0f7a4_32 : decode cJ6_bitCount_0f7a4 32 = .ok (.iand, 1) := by decide +kernel
theorem dJ6_bitCount_0f7a4_33 : decode cJ6_bitCount_0f7a4 33 = .ok (.istore_n 0, 1) := by decide +kernel
theorem dJ6_bitCount_0f7a4_34 : decode cJ6_bitCount_0f7a4 34 = .ok (.iload_n 0, 1) := by decide +kernel
theorem dJ6_bitCount_0f7a4_35 : decode cJ6_bitCount_0f7a4 35 = .ok (.iload_n 0, 1) := by decide +kernel
theorem dJ6_bitCount_0f7a4_36 : decode cJ6_bitCount_0f7a4 36 = .ok (.bipush 8, 2) := by decide +kernel
theorem dJ6_bitCount_0f7a4_38 : decode cJ6_bitCount_0f7a4 38 = .ok (.iushr, 1) := by decide +kernel
theorem dJ6_bitCount_0f7a4_39 : decode cJ6_bitCount_0f7a4 39 = .ok (.iadd, 1) := by decide +kernel
theorem dJ6_bitCount_0f7a4_40 : decode cJ6_bitCount_0f7a4 40 = .ok (.istore_n 0, 1) := by decide +kernel
theorem dJ6_bitCount_0f7a4_41 : decode cJ6_bitCount_0f7a4 41 = .ok (.iload_n 0, 1) := by decide +kernel
theorem dJ6_bitCount_0f7a4_42 : decode cJ6_bitCount_0f7a4 42 = .ok (.iload_n 0, 1) := by decide +kernel
theorem dJ6_bitCount_0f7a4_43 : decode cJ6_bitCount_0f7a4 43 = .ok (.bipush 16, 2) := by decide +kernel
theorem dJ6_bitCount_0f7a4_45 : decode cJ6_bitCount_0f7a4 45 = .ok (.iushr, 1) := by decide +kernel
theorem dJ6_bitCount_0f7a4_46 : decode cJ6_bitCount_0f7a4 46 = .ok (.iadd, 1) := by decide +kernel
theorem dJ6_bitCount_0f7a4_47 : decode cJ6_bitCount_0f7a4 47 = .ok (.istore_n 0, 1) := by decide +kernel
theorem dJ6_bitCount_0f7a4_48 : decode cJ6_bitCount_0f7a4 48 = .ok (.iload_n 0, 1) := by decide +kernel
theorem dJ6_bitCount_0f7a4_49 : decode cJ6_bitCount_0f7a4 49 = .ok (.bipush 63, 2) := by decide +kernel
theorem dJ6_bitCount_0f7a4_51 : decode cJ6_bitCount_0f7a4 51 = .ok (.iand, 1) := by decide +kernel
theorem dJ6_bitCount_0f7a4_52 : decode cJ6_bitCount_0f7a4 52 = .ok (.ireturn, 1) := by decide +kernel
theorem dJ13_bitCount_95d88_0 : decode cJ13_bitCount_95d88 0 = .ok (.lload_n 0, 1) := by decide +kernel
theorem dJ13_bitCount_95d88_1 : decode cJ13_bitCount_95d88 1 = .ok (.lload_n 0, 1) := by decide +kernel
theorem dJ13_bitCount_95d88_2 : decode cJ13_bitCount_95d88 2 = .ok (.iconst 1, 1) := by decide +kernel
theorem dJ13_bitCount_95d88_3 : decode cJ13_bitCount_95d88 3 = .ok (.lushr, 1) := by decide +kernel
theorem dJ13_bitCount_95d88_4 : decode cJ13_bitCount_95d88 4 = .ok (.ldc2_w 314, 3) := by decide +kernel
theorem dJ13_bitCount_95d88_7 : decode cJ13_bitCount_95d88 7 = .ok (.land, 1) := by decide +kernel
theorem dJ13_bitCount_95d88_8 : decode cJ13_bitCount_95d88 8 = .ok (.lsub, 1) := by decide +kernel
theorem dJ13_bitCount_95d88_9 : decode cJ13_bitCount_95d88 9 = .ok (.lstore_n 0, 1) := by decide +kernel
theorem dJ13_bitCount_95d88_10 : decode cJ13_bitCount_95d88 10 = .ok (.lload_n 0, 1) := by decide +kernel
theorem dJ13_bitCount_95d88_11 : decode cJ13_bitCount_95d88 11 = .ok (.ldc2_w 316, 3) := by decide +kernel
theorem dJ13_bitCount_95d88_14 : decode cJ13_bitCount_95d88 14 = .ok (.land, 1) := by decide +kernel
theorem dJ13_bitCount_95d88_15 : decode cJ13_bitCount_95d88 15 = .ok (.lload_n 0, 1) := by decide +kernel
theorem dJ13_bitCount_95d88_16 : decode cJ13_bitCount_95d88 16 = .ok (.iconst 2, 1) := by decide +kernel
theorem dJ13_bitCount_95d88_17 : decode cJ13_bitCount_95d88 17 = .ok (.lushr, 1) := by decide +kernel
theorem dJ13_bitCount_95d88_18 : decode cJ13_bitCount_95d88 18 = .ok (.ldc2_w 316, 3) := by decide +kernel
theorem dJ13_bitCount_95d88_21 : decode cJ13_bitCount_95d88 21 = .ok (.land, 1) := by decide +kernel
theorem dJ13_bitCount_95d88_22 : decode cJ13_bitCount_95d88 22 = .ok (.ladd, 1) := by decide +kernel
theorem dJ13_bitCount_95d88_23 : decode cJ13_bitCount_95d88 23 = .ok (.lstore_n 0, 1) := by decide +kernel
theorem dJ13_bitCount_95d88_24 : decode cJ13_bitCount_95d88 24 = .ok (.lload_n 0, 1) := by decide +kernel
theorem dJ13_bitCount_95d88_25 : decode cJ13_bitCount_95d88 25 = .ok (.lload_n 0, 1) := by decide +kernel
theorem dJ13_bitCount_95d88_26 : decode cJ13_bitCount_95d88 26 = .ok (.iconst 4, 1) := by decide +kernel
theorem dJ13_bitCount_95d88_27 : decode cJ13_bitCount_95d88 27 = .ok (.lushr, 1) := by decide +kernel
theorem dJ13_bitCount_95d88_28 : decode cJ13_bitCount_95d88 28 = .ok (.ladd, 1) := by decide +kernel
theorem dJ13_bitCount_95d88_29 : decode cJ13_bitCount_95d88 29 = .ok (.ldc2_w 318, 3) := by decide +kernel
theorem dJ13_bitCount_95d88_32 : decode cJ13_bitCount_95d88 32 = .ok (.land, 1) := by decide +kernel
theorem dJ13_bitCount_95d88_33 : decode cJ13_bitCount_95d88 33 = .ok (.lstore_n 0, 1) := by decide +kernel
theorem dJ13_bitCount_95d88_34 : decode cJ13_bitCount_95d88 34 = .ok (.lload_n 0, 1) := by decide +kernel
theorem dJ13_bitCount_95d88_35 : decode cJ13_bitCount_95d88 35 = .ok (.lload_n 0, 1) := by decide +kernel
theorem dJ13_bitCount_95d88_36 : decode cJ13_bitCount_95d88 36 = .ok (.bipush 8, 2) := by decide +kernel
theorem dJ13_bitCount_95d88_38 : decode cJ13_bitCount_95d88 38 = .ok (.lushr, 1) := by decide +kernel
theorem dJ13_bitCount_95d88_39 : decode cJ13_bitCount_95d88 39 = .ok (.ladd, 1) := by decide +kernel
theorem dJ13_bitCount_95d88_40 : decode cJ13_bitCount_95d88 40 = .ok (.lstore_n 0, 1) := by decide +kernel
theorem dJ13_bitCount_95d88_41 : decode cJ13_bitCount_95d88 41 = .ok (.lload_n 0, 1) := by decide +kernel
theorem dJ13_bitCount_95d88_42 : decode cJ13_bitCount_95d88 42 = .ok (.lload_n 0, 1) := by decide +kernel
theorem dJ13_bitCount_95d88_43 : decode cJ13_bitCount_95d88 43 = .ok (.bipush 16, 2) := by decide +kernel
theorem dJ13_bitCount_95d88_45 : decode cJ13_bitCount_95d88 45 = .ok (.lushr, 1) := by decide +kernel
theorem dJ13_bitCount_95d88_46 : decode cJ13_bitCount_95d88 46 = .ok (.ladd, 1) := by decide +kernel
theorem dJ13_bitCount_95d88_47 : decode cJ13_bitCount_95d88 47 = .ok (.lstore_n 0, 1) := by decide +kernel
theorem dJ13_bitCount_95d88_48 : decode cJ13_bitCount_95d88 48 = .ok (.lload_n 0, 1) := by decide +kernel
theorem dJ13_bitCount_95d88_49 : decode cJ13_bitCount_95d88 49 = .ok (.lload_n 0, 1) := by decide +kernel
theorem dJ13_bitCount_95d88_50 : decode cJ13_bitCount_95d88 50 = .ok (.bipush 32, 2) := by decide +kernel
theorem dJ13_bitCount_95d88_52 : decode cJ13_bitCount_95d88 52 = .ok (.lushr, 1) := by decide +kernel
theorem dJ13_bitCount_95d88_53 : decode cJ13_bitCount_95d88 53 = .ok (.ladd, 1) := by decide +kernel
theorem dJ13_bitCount_95d88_54 : decode cJ13_bitCount_95d88 54 = .ok (.lstore_n 0, 1) := by decide +kernel
theorem dJ13_bitCount_95d88_55 : decode cJ13_bitCount_95d88 55 = .ok (.lload_n 0, 1) := by decide +kernel
theorem dJ13_bitCount_95d88_56 : decode cJ13_bitCount_95d88 56 = .ok (.l2i, 1) := by decide +kernel
theorem dJ13_bitCount_95d88_57 : decode cJ13_bitCount_95d88 57 = .ok (.bipush 127, 2) := by decide +kernel
theorem dJ13_bitCount_95d88_59 : decode cJ13_bitCount_95d88 59 = .ok (.iand, 1) := by decide +kernel
theorem dJ13_bitCount_95d88_60 : decode cJ13_bitCount_95d88 60 = .ok (.ireturn, 1) := by decide +kernel
theorem dJ9_abs_0f7a4_0 : decode cJ9_abs_0f7a4 0 = .ok (.iload_n 0, 1) := by decide +kernel
theorem dJ9_abs_0f7a4_1 : decode cJ9_abs_0f7a4 1 = .ok (.ifCond .ge 8, 3) := by decide +kernel
theorem dJ9_abs_0f7a4_4 : decode cJ9_abs_0f7a4 4 = .ok (.iload_n 0, 1) := by decide +kernel
theorem dJ9_abs_0f7a4_5 : decode cJ9_abs_0f7a4 5 = .ok (.ineg, 1) := by decide +kernel
theorem dJ9_abs_0f7a4_6 : decode cJ9_abs_0f7a4 6 = .ok (.goto 4, 3) := by decide +kernel
theorem dJ9_abs_0f7a4_9 : decode cJ9_abs_0f7a4 9 = .ok (.iload_n 0, 1) := by decide +kernel
theorem dJ9_abs_0f7a4_10 : decode cJ9_abs_0f7a4 10 = .ok (.ireturn, 1) := by decide +kernel
theorem dJ9_max_7cf53_0 : decode cJ9_max_7cf53 0 = .ok (.iload_n 0, 1) := by decide +kernel
theorem dJ9_max_7cf53_1 : decode cJ9_max_7cf53 1 = .ok (.iload_n 1, 1) := by decide +kernel
theorem dJ9_max_7cf53_2 : decode cJ9_max_7cf53 2 = .ok (.if_icmp .lt 7, 3) := by decide +kernel
theorem dJ9_max_7cf53_5 : decode cJ9_max_7cf53 5 = .ok (.iload_n 0, 1) := by decide +kernel
theorem dJ9_max_7cf53_6 : decode cJ9_max_7cf53 6 = .ok (.goto 4, 3) := by decide +kernel
theorem dJ9_max_7cf53_9 : decode cJ9_max_7cf53 9 = .ok (.iload_n 1, 1) := by decide +kernel
theorem dJ9_max_7cf53_10 : decode cJ9_max_7cf53 10 = .ok (.ireturn, 1) := by decide +kernel
theorem dJ9_min_7cf53_0 : decode cJ9_min_7cf53 0 = .ok (.iload_n 0, 1) := by decide +kernel
theorem dJ9_min_7cf53_1 : decode cJ9_min_7cf53 1 = .ok (.iload_n 1, 1) := by decide +kernel
theorem dJ9_min_7cf53_2 : decode cJ9_min_7cf53 2 = .ok (.if_icmp .gt 7, 3) := by decide +kernel
theorem dJ9_min_7cf53_5 : decode cJ9_min_7cf53 5 = .ok (.iload_n 0, 1) := by decide +kernel
theorem dJ9_min_7cf53_6 : decode cJ9_min_7cf53 6 = .ok (.goto 4, 3) := by decide +kernel
theorem dJ9_min_7cf53_9 : decode cJ9_min_7cf53 9 = .ok (.iload_n 1, 1) := by decide +kernel
theorem dJ9_min_7cf53_10 : decode cJ9_min_7cf53 10 = .ok (.ireturn, 1) := by decide +kernel
theorem dJ0_length_8abf5_0 : decode cJ0_length_8abf5 0 = .ok (.aload_n 0, 1) := by decide +kernel
theorem dJ0_length_8abf5_1 : decode cJ0_length_8abf5 1 = .ok (.getfield 9, 3) := by decide +kernel
theorem dJ0_length_8abf5_4 : decode cJ0_length_8abf5 4 = .ok (.arraylength, 1) := by decide +kernel
theorem dJ0_length_8abf5_5 : decode cJ0_length_8abf5 5 = .ok (.aload_n 0, 1) := by decide +kernel
theorem dJ0_length_8abf5_6 : decode cJ0_length_8abf5 6 = .ok (.invokevirtual 335, 3) := by decide +kernel
theorem dJ0_length_8abf5_9 : decode cJ0_length_8abf5 9 = .ok (.ishr, 1) := by decide +kernel
theorem dJ0_length_8abf5_10 : decode cJ0_length_8abf5 10 = .ok (.ireturn, 1) := by decide +kernel
theorem dJ0_charAt_5068e_0 : decode cJ0_charAt_5068e 0 = .ok (.aload_n 0, 1) := by decide +kernel
theorem dJ0_charAt_5068e_1 : decode cJ0_charAt_5068e 1 = .ok (.invokevirtual 492, 3) := by decide +kernel
theorem dJ0_charAt_5068e_4 : decode cJ0_charAt_5068e 4 = .ok (.ifCond .eq 12, 3) := by decide +kernel
theorem dJ0_charAt_5068e_7 : decode cJ0_charAt_5068e 7 = .ok (.aload_n 0, 1) := by decide +kernel
theorem dJ0_charAt_5068e_8 : decode cJ0_charAt_5068e 8 = .ok (.getfield 9, 3) := by decide +kernel
theorem dJ0_charAt_5068e_11 : decode cJ0_charAt_5068e 11 = .ok (.iload_n 1, 1) := by decide +kernel
theorem dJ0_charAt_5068e_12 : decode cJ0_charAt_5068e 12 = .ok (.invokestatic 495, 3) := by decide +kernel
theorem dJ0_charAt_5068e_15 : decode cJ0_charAt_5068e 15 = .ok (.ireturn, 1) := by decide +kernel
theorem dJ0_charAt_5068e_16 : decode cJ0_charAt_5068e 16 = .ok (.aload_n 0, 1) := by decide +kernel
theorem dJ0_charAt_5068e_17 : decode cJ0_charAt_5068e 17 = .ok (.getfield 9, 3) := by decide +kernel
theorem dJ0_charAt_5068e_20 : decode cJ0_charAt_5068e 20 = .ok (.iload_n 1, 1) := by decide +kernel
theorem dJ0_charAt_5068e_21 : decode cJ0_charAt_5068e 21 = .ok (.invokestatic 498, 3) := by decide +kernel
theorem dJ0_charAt_5068e_24 : decode cJ0_charAt_5068e 24 = .ok (.ireturn, 1) := by decide +kernel
theorem dJ0_coder_7d493_0 : decode cJ0_coder_7d493 0 = .ok (.getstatic 38, 3) := by decide +kernel
theorem dJ0_coder_7d493_3 : decode cJ0_coder_7d493 3 = .ok (.ifCond .eq 10, 3) := by decide +kernel
theorem dJ0_coder_7d493_6 : decode cJ0_coder_7d493 6 = .ok (.aload_n 0, 1) := by decide +kernel
theorem dJ0_coder_7d493_7 : decode cJ0_coder_7d493 7 = .ok (.getfield 15, 3) := by decide +kernel
theorem dJ0_coder_7d493_10 : decode cJ0_coder_7d493 10 = .ok (.goto 4, 3) := by decide +kernel
theorem dJ0_coder_7d493_13 : decode cJ0_coder_7d493 13 = .ok (.iconst 1, 1) := by decide +kernel
theorem dJ0_coder_7d493_14 : decode cJ0_coder_7d493 14 = .ok (.ireturn, 1) := by decide +kernel
theorem dJ0_isLatin1_aae02_0 : decode cJ0_isLatin1_aae02 0 = .ok (.getstatic 38, 3) := by decide +kernel
theorem dJ0_isLatin1_aae02_3 : decode cJ0_isLatin1_aae02 3 = .ok (.ifCond .eq 14, 3) := by decide +kernel
theorem dJ0_isLatin1_aae02_6 : decode cJ0_isLatin1_aae02 6 = .ok (.aload_n 0, 1) := by decide +kernel
theorem dJ0_isLatin1_aae02_7 : decode cJ0_isLatin1_aae02 7 = .ok (.getfield 15, 3) := by decide +kernel
theorem dJ0_isLatin1_aae02_10 : decode cJ0_isLatin1_aae02 10 = .ok (.ifCond .ne 7, 3) := by decide +kernel
theorem dJ0_isLatin1_aae02_13 : decode cJ0_isLatin1_aae02 13 = .ok (.iconst 1, 1) := by decide +kernel
theorem dJ0_isLatin1_aae02_14 : decode cJ0_isLatin1_aae02 14 = .ok (.goto 4, 3) := by decide +kernel
theorem dJ0_isLatin1_aae02_17 : decode cJ0_isLatin1_aae02 17 = .ok (.iconst 0, 1) := by decide +kernel
theorem dJ0_isLatin1_aae02_18 : decode cJ0_isLatin1_aae02 18 = .ok (.ireturn, 1) := by decide +kernel
theorem dJ0_checkIndex_df160_0 : decode cJ0_checkIndex_df160 0 = .ok (.iload_n 0, 1) := by decide +kernel
theorem dJ0_checkIndex_df160_1 : decode cJ0_checkIndex_df160 1 = .ok (.iload_n 1, 1) := by decide +kernel
theorem dJ0_checkIndex_df160_2 : decode cJ0_checkIndex_df160 2 = .ok (.getstatic 1053, 3) := by decide +kernel
theorem dJ0_checkIndex_df160_5 : decode cJ0_checkIndex_df160 5 = .ok (.invokestatic 1059, 3) := by decide +kernel
theorem dJ0_checkIndex_df160_8 : decode cJ0_checkIndex_df160 8 = .ok (.pop, 1) := by decide +kernel
theorem dJ0_checkIndex_df160_9 : decode cJ0_checkIndex_df160 9 = .ok (.return_, 1) := by decide +kernel
theorem dJ1_charAt_3b067_0 : decode cJ1_charAt_3b067 0 = .ok (.iload_n 1, 1) := by decide +kernel
theorem dJ1_charAt_3b067_1 : decode cJ1_charAt_3b067 1 = .ok (.aload_n 0, 1) := by decide +kernel
theorem dJ1_charAt_3b067_2 : decode cJ1_charAt_3b067 2 = .ok (.arraylength, 1) := by decide +kernel
theorem dJ1_charAt_3b067_3 : decode cJ1_charAt_3b067 3 = .ok (.invokestatic 9, 3) := by decide +kernel
theorem dJ1_charAt_3b067_6 : decode cJ1_charAt_3b067 6 = .ok (.aload_n 0, 1) := by decide +kernel
theorem dJ1_charAt_3b067_7 : decode cJ1_charAt_3b067 7 = .ok (.iload_n 1, 1) := by decide +kernel
theorem dJ1_charAt_3b067_8 : decode cJ1_charAt_3b067 8 = .ok (.baload, 1) := by decide +kernel
theorem dJ1_charAt_3b067_9 : decode cJ1_charAt_3b067 9 = .ok (.sipush 255, 3) := by decide +kernel
theorem dJ1_charAt_3b067_12 : decode cJ1_charAt_3b067 12 = .ok (.iand, 1) := by decide +kernel
theorem dJ1_charAt_3b067_13 : decode cJ1_charAt_3b067 13 = .ok (.i2c, 1) := by decide +kernel
theorem dJ1_charAt_3b067_14 : decode cJ1_charAt_3b067 14 = .ok (.ireturn, 1) := by decide +kernel
theorem dJ2_getChar_3b067_0 : decode cJ2_getChar_3b067 0 = .ok (.getstatic 44, 3) := by decide +kernel
theorem dJ2_getChar_3b067_3 : decode cJ2_getChar_3b067 3 = .ok (.ifCond .ne 25, 3) := by decide +kernel
theorem dJ2_getChar_3b067_6 : decode cJ2_getChar_3b067 6 = .ok (.iload_n 1, 1) := by decide +kernel
theorem dJ2_getChar_3b067_7 : decode cJ2_getChar_3b067 7 = .ok (.ifCond .lt 11, 3) := by decide +kernel
theorem dJ2_getChar_3b067_10 : decode cJ2_getChar_3b067 10 = .ok (.iload_n 1, 1) := by decide +kernel
theorem dJ2_getChar_3b067_11 : decode cJ2_getChar_3b067 11 = .ok (.aload_n 0, 1) := by decide +kernel
theorem dJ2_getChar_3b067_12 : decode cJ2_getChar_3b067 12 = .ok (.invokestatic 48, 3) := by decide +kernel
theorem dJ2_getChar_3b067_15 : decode cJ2_getChar_3b067 15 = .ok (.if_icmp .lt 13, 3) := by decide +kernel
theorem dJ2_getChar_3b067_18 : decode cJ2_getChar_3b067 18 = .ok (.new 52, 3) := by decide +kernel
theorem dJ2_getChar_3b067_21 : decode cJ2_getChar_3b067 21 = .ok (.dup, 1) := by decide +kernel
theorem dJ2_getChar_3b067_22 : decode cJ2_getChar_3b067 22 = .ok (.ldc 54, 2) := by decide +kernel
theorem dJ2_getChar_3b067_24 : decode cJ2_getChar_3b067 24 = .ok (.invokespecial 56, 3) := by decide +kernel
theorem dJ2_getChar_3b067_27 : decode cJ2_getChar_3b067 27 = .ok (.athrow, 1) := by decide +kernel
theorem dJ2_getChar_3b067_28 : decode cJ2_getChar_3b067 28 = .ok (.iload_n 1, 1) := by decide +kernel
theorem dJ2_getChar_3b067_29 : decode cJ2_getChar_3b067 29 = .ok (.iconst 1, 1) := by decide +kernel
theorem dJ2_getChar_3b067_30 : decode cJ2_getChar_3b067 30 = .ok (.ishl, 1) := by decide +kernel
theorem dJ2_getChar_3b067_31 : decode cJ2_getChar_3b067 31 = .ok (.istore_n 1, 1) := by decide +kernel
theorem dJ2_getChar_3b067_32 : decode cJ2_getChar_3b067 32 = .ok (.aload_n 0, 1) := by decide +kernel
theorem dJ2_getChar_3b067_33 : decode cJ2_getChar_3b067 33 = .ok (.iload_n 1, 1) := by decide +kernel
theorem dJ2_getChar_3b067_34 : decode cJ2_getChar_3b067 34 = .ok (.iinc 1 1, 3) := by decide +kernel
theorem dJ2_getChar_3b067_37 : decode cJ2_getChar_3b067 37 = .ok (.baload, 1) := by decide +kernel
theorem dJ2_getChar_3b067_38 : decode cJ2_getChar_3b067 38 = .ok (.sipush 255, 3) := by decide +kernel
theorem dJ2_getChar_3b067_41 : decode cJ2_getChar_3b067 41 = .ok (.iand, 1) := by decide +kernel
theorem dJ2_getChar_3b067_42 : decode cJ2_getChar_3b067 42 = .ok (.getstatic 59, 3) := by decide +kernel
theorem dJ2_getChar_3b067_45 : decode cJ2_getChar_3b067 45 = .ok (.ishl, 1) := by decide +kernel
theorem dJ2_getChar_3b067_46 : decode cJ2_getChar_3b067 46 = .ok (.aload_n 0, 1) := by decide +kernel
theorem dJ2_getChar_3b067_47 : decode cJ2_getChar_3b067 47 = .ok (.iload_n 1, 1) := by decide +kernel
theorem dJ2_getChar_3b067_48 : decode cJ2_getChar_3b067 48 = .ok (.baload, 1) := by decide +kernel
theorem dJ2_getChar_3b067_49 : decode cJ2_getChar_3b067 49 = .ok (.sipush 255, 3) := by decide +kernel
theorem dJ2_getChar_3b067_52 : decode cJ2_getChar_3b067 52 = .ok (.iand, 1) := by decide +kernel
theorem dJ2_getChar_3b067_53 : decode cJ2_getChar_3b067 53 = .ok (.getstatic 63, 3) := by decide +kernel
theorem dJ2_getChar_3b067_56 : decode cJ2_getChar_3b067 56 = .ok (.ishl, 1) := by decide +kernel
theorem dJ2_getChar_3b067_57 : decode cJ2_getChar_3b067 57 = .ok (.ior, 1) := by decide +kernel
theorem dJ2_getChar_3b067_58 : decode cJ2_getChar_3b067 58 = .ok (.i2c, 1) := by decide +kernel
theorem dJ2_getChar_3b067_59 : decode cJ2_getChar_3b067 59 = .ok (.ireturn, 1) := by decide +kernel
theorem dJ2_length_9d52b_0 : decode cJ2_length_9d52b 0 = .ok (.aload_n 0, 1) := by decide +kernel
theorem dJ2_length_9d52b_1 : decode cJ2_length_9d52b 1 = .ok (.arraylength, 1) := by decide +kernel
theorem dJ2_length_9d52b_2 : decode cJ2_length_9d52b 2 = .ok (.iconst 1, 1) := by decide +kernel
theorem dJ2_length_9d52b_3 : decode cJ2_length_9d52b 3 = .ok (.ishr, 1) := by decide +kernel
theorem dJ2_length_9d52b_4 : decode cJ2_length_9d52b 4 = .ok (.ireturn, 1) := by decide +kernel
theorem dJ2_charAt_3b067_0 : decode cJ2_charAt_3b067 0 = .ok (.iload_n 1, 1) := by decide +kernel
theorem dJ2_charAt_3b067_1 : decode cJ2_charAt_3b067 1 = .ok (.aload_n 0, 1) := by decide +kernel
theorem dJ2_charAt_3b067_2 : decode cJ2_charAt_3b067 2 = .ok (.invokestatic 67, 3) := by decide +kernel
theorem dJ2_charAt_3b067_5 : decode cJ2_charAt_3b067 5 = .ok (.aload_n 0, 1) := by decide +kernel
theorem dJ2_charAt_3b067_6 : decode cJ2_charAt_3b067 6 = .ok (.iload_n 1, 1) := by decide +kernel
theorem dJ2_charAt_3b067_7 : decode cJ2_charAt_3b067 7 = .ok (.invokestatic 71, 3) := by decide +kernel
theorem dJ2_charAt_3b067_10 : decode cJ2_charAt_3b067 10 = .ok (.ireturn, 1) := by decide +kernel
theorem dJ2_checkIndex_2214a_0 : decode cJ2_checkIndex_2214a 0 = .ok (.iload_n 0, 1) := by decide +kernel
theorem dJ2_checkIndex_2214a_1 : decode cJ2_checkIndex_2214a 1 = .ok (.aload_n 1, 1) := by decide +kernel
theorem dJ2_checkIndex_2214a_2 : decode cJ2_checkIndex_2214a 2 = .ok (.invokestatic 48, 3) := by decide +kernel
theorem dJ2_checkIndex_2214a_5 : decode cJ2_checkIndex_2214a 5 = .ok (.invokestatic 414, 3) := by decide +kernel
theorem dJ2_checkIndex_2214a_8 : decode cJ2_checkIndex_2214a 8 = .ok (.return_, 1) := by decide +kernel
theorem dJ3_checkIndex_8e157_0 : decode cJ3_checkIndex_8e157 0 = .ok (.iload_n 0, 1) := by decide +kernel
theorem dJ3_checkIndex_8e157_1 : decode cJ3_checkIndex_8e157 1 = .ok (.ifCond .lt 8, 3) := by decide +kernel
theorem dJ3_checkIndex_8e157_4 : decode cJ3_checkIndex_8e157 4 = .ok (.iload_n 0, 1) := by decide +kernel
theorem dJ3_checkIndex_8e157_5 : decode cJ3_checkIndex_8e157 5 = .ok (.iload_n 1, 1) := by decide +kernel
theorem dJ3_checkIndex_8e157_6 : decode cJ3_checkIndex_8e157 6 = .ok (.if_icmp .lt 10, 3) := by decide +kernel
theorem dJ3_checkIndex_8e157_9 : decode cJ3_checkIndex_8e157 9 = .ok (.aload_n 2, 1) := by decide +kernel
theorem dJ3_checkIndex_8e157_10 : decode cJ3_checkIndex_8e157 10 = .ok (.iload_n 0, 1) := by decide +kernel
theorem dJ3_checkIndex_8e157_11 : decode cJ3_checkIndex_8e157 11 = .ok (.iload_n 1, 1) := by decide +kernel
theorem dJ3_checkIndex_8e157_12 : decode cJ3_checkIndex_8e157 12 = .ok (.invokestatic 95, 3) := by decide +kernel
theorem dJ3_checkIndex_8e157_15 : decode cJ3_checkIndex_8e157 15 = .ok (.athrow, 1) := by decide +kernel
theorem dJ3_checkIndex_8e157_16 : decode cJ3_checkIndex_8e157 16 = .ok (.iload_n 0, 1) := by decide +kernel
theorem dJ3_checkIndex_8e157_17 : decode cJ3_checkIndex_8e157 17 = .ok (.ireturn, 1) := by decide +kernel
end
section
/-! MY OWN FRAME: a method is held against a function 'o' over an abstract state; VF says: if o has an answer, the machine comes to it. -/
abbrev St : Type := (Nat → Nat → Int32) × (Nat → Nat → Int32) × (Nat → Nat → Int64)
def up2 {α : Type} (f : Nat → Nat → α) (k i : Nat) (v : α) : Nat → Nat → α := fun a b => if a = k then (if b = i then v else f a b) else f a b
def gF (σ : St) (k j : Nat) : Int32 := σ.1 k j
def gA (σ : St) (k i : Nat) : Int32 := σ.2.1 k i
def gL (σ : St) (k i : Nat) : Int64 := σ.2.2 k i
def pF (σ : St) (k j : Nat) (v : Int32) : St := (up2 σ.1 k j v, σ.2)
def pA (σ : St) (k i : Nat) (v : Int32) : St := (σ.1, up2 σ.2.1 k i v, σ.2.2)
def pL (σ : St) (k i : Nat) (v : Int64) : St := (σ.1, σ.2.1, up2 σ.2.2 k i v)
def cpN (n : Nat) (f g : Nat → Int32) : Nat → Int32 := fun j => if j < n then f j else g j
def pC (σ : St) (k : Nat) (g : Nat → Int32) : St := (σ.1, (fun a => if a = k then g else σ.2.1 a), σ.2.2)
/-- a cell's shape: an object (class, fields: none a number, some none null, some (some r) the cell r) or an array (type, length, the rows of an outer one) -/
abbrev Sh : Type := (Nat × List (Option (Option Nat))) ⊕ (Nat × Nat × List Nat)
/-- the cells' shapes, and the script: its length, its ints -/
abbrev SHT : Type := List Sh × Nat × (Nat → Int32)
abbrev En : Type := (Nat → Nat) × va_G × (Nat → ClassId)
def tyl (E : En) : List (ClassId × FieldType) := [(E.2.2 0, .int), (E.2.2 1, .byte), (E.2.2 2, .char), (E.2.2 3, .long), (E.2.2 4, .array .int), (E.2.2 5, .array .long)]
def shV (E : En) (σ : St) (k : Nat) : Nat → List (Option (Option Nat)) → List Value
  | _, [] => []
  | j, none :: l => .int (gF σ k j) :: shV E σ k (j + 1) l
  | j, some none :: l => .null :: shV E σ k (j + 1) l
  | j, some (some r) :: l => .ref (E.1 r) :: shV E σ k (j + 1) l
def shA (E : En) (σ : St) (k : Nat) (rows : List Nat) (t : Nat) : (Nat → Int32) ⊕ (Nat → Int64) ⊕ (Nat → UInt32) ⊕ (Nat → UInt64) ⊕ (Nat → Option Nat) :=
  if t < 3 then .inl (gA σ k) else if t = 3 then .inr (.inl (gL σ k)) else .inr (.inr (.inr (.inr (fun i => (rows[i]?).map E.1))))
def shE (E : En) (σ : St) (k : Nat) (c : Sh) : va_E := match c with
  | .inl (ci, fs) => .inr (ci, shV E σ k 0 fs)
  | .inr (t, n, rows) => .inl (E.2.2 t, n, shA E σ k rows t)
def wdF (E : En) (σ : St) : Nat → List Sh → va_W
  | _, [] => []
  | k, c :: l => (E.1 k, shE E σ k c) :: wdF E σ (k + 1) l
def wd (E : En) (SH : SHT) (σ : St) : va_W := wdF E σ 0 SH.1
theorem wdF_get (E : En) (σ : St) : ∀ (SH : List Sh) (b k : Nat), (wdF E σ b SH)[k]? = (SH[k]?).map (fun c => (E.1 (b + k), shE E σ (b + k) c))
  | [], b, k => by simp [wdF]
  | c :: l, b, 0 => by simp [wdF]
  | c :: l, b, k + 1 => by
    have h := wdF_get E σ l (b + 1) k
    simp only [wdF, List.getElem?_cons_succ]
    rw [h, show b + 1 + k = b + (k + 1) by omega]
theorem wd_get {E : En} {σ : St} {SH : SHT} {k : Nat} {c : Sh} (h : SH.1[k]? = some c) : (wd E SH σ)[k]? = some (E.1 k, shE E σ k c) := by
  unfold wd
  rw [wdF_get, h]
  simp
theorem wd_get' {E : En} {σ : St} {SH : SHT} {k : Nat} {q : Nat × va_E} (h : (wd E SH σ)[k]? = some q) : ∃ c, SH.1[k]? = some c ∧ q = (E.1 k, shE E σ k c) := by
  unfold wd at h
  rw [wdF_get] at h
  cases hc : SH.1[k]? with
  | none => rw [hc] at h; cases h
  | some c =>
    rw [hc] at h
    simp at h
    exact ⟨c, rfl, h.symm⟩
theorem wd_len (E : En) (SH : SHT) (σ : St) : (wd E SH σ).length = SH.1.length := by
  have : ∀ (S : List Sh) (b : Nat), (wdF E σ b S).length = S.length := by
    intro S
    induction S with
    | nil => intro b; rfl
    | cons c l ih => intro b; simp [wdF, ih]
  exact this SH.1 0
theorem wd_set {E : En} {σ σ' : St} {SH : SHT} {k : Nat} {c : Sh} (hc : SH.1[k]? = some c) (h : ∀ j c', j ≠ k → shE E σ' j c' = shE E σ j c') : (wd E SH σ).set k (E.1 k, shE E σ' k c) = wd E SH σ' := by
  apply List.ext_getElem?
  intro j
  by_cases hj : j = k
  · subst hj
    rw [List.getElem?_set_self (by rw [wd_len]; exact (List.getElem?_eq_some_iff.mp hc).1), wd_get hc]
  · rw [List.getElem?_set_ne (Ne.symm hj)]
    unfold wd
    rw [wdF_get, wdF_get]
    cases SH.1[j]? with
    | none => rfl
    | some c' => simp [h j c' hj]
theorem shV_get {E : En} {σ : St} {k : Nat} : ∀ (fs : List (Option (Option Nat))) (b j : Nat), (shV E σ k b fs)[j]? = (fs[j]?).map (fun x => match x with | none => Value.int (gF σ k (b + j)) | some none => .null | some (some r) => .ref (E.1 r))
  | [], b, j => by simp [shV]
  | none :: l, b, 0 => by simp [shV]
  | some none :: l, b, 0 => by simp [shV]
  | some (some r) :: l, b, 0 => by simp [shV]
  | none :: l, b, j + 1 => by
    have h := shV_get (E := E) (σ := σ) (k := k) l (b + 1) j
    simp only [shV, List.getElem?_cons_succ]
    rw [h, show b + 1 + j = b + (j + 1) by omega]
  | some none :: l, b, j + 1 => by
    have h := shV_get (E := E) (σ := σ) (k := k) l (b + 1) j
    simp only [shV, List.getElem?_cons_succ]
    rw [h, show b + 1 + j = b + (j + 1) by omega]
  | some (some r) :: l, b, j + 1 => by
    have h := shV_get (E := E) (σ := σ) (k := k) l (b + 1) j
    simp only [shV, List.getElem?_cons_succ]
    rw [h, show b + 1 + j = b + (j + 1) by omega]
theorem shV_len {E : En} {σ : St} {k : Nat} : ∀ (fs : List (Option (Option Nat))) (b : Nat), (shV E σ k b fs).length = fs.length
  | [], b => rfl
  | none :: l, b => by simp [shV, shV_len l]
  | some none :: l, b => by simp [shV, shV_len l]
  | some (some r) :: l, b => by simp [shV, shV_len l]
theorem shV_set {E : En} {σ : St} {k : Nat} {fs : List (Option (Option Nat))} {j : Nat} {v : Int32} (h : fs[j]? = some none) : (shV E σ k 0 fs).set j (.int v) = shV E (pF σ k j v) k 0 fs := by
  apply List.ext_getElem?
  intro i
  by_cases hi : i = j
  · subst hi
    rw [List.getElem?_set_self (by rw [shV_len]; exact (List.getElem?_eq_some_iff.mp h).1), shV_get, h]
    simp [gF, pF, up2]
  · rw [List.getElem?_set_ne (Ne.symm hi), shV_get, shV_get]
    cases hx : fs[i]? with
    | none => rfl
    | some x =>
      cases x with
      | none => simp [gF, pF, up2, hi]
      | some y => cases y <;> rfl
theorem shV_off {E : En} {σ σ' : St} {k : Nat} (h : ∀ j, gF σ' k j = gF σ k j) : ∀ (fs : List (Option (Option Nat))) (b : Nat), shV E σ' k b fs = shV E σ k b fs
  | [], b => rfl
  | none :: l, b => by simp [shV, shV_off h l, h]
  | some none :: l, b => by simp [shV, shV_off h l]
  | some (some r) :: l, b => by simp [shV, shV_off h l]
theorem shE_off {E : En} {σ σ' : St} {k : Nat} (h : ∀ j, gF σ' k j = gF σ k j) (h2 : gA σ' k = gA σ k) (h3 : gL σ' k = gL σ k) (c : Sh) : shE E σ' k c = shE E σ k c := by
  rcases c with ⟨ci, fs⟩ | ⟨t, n, rows⟩
  · simp only [shE, shV_off h]
  · simp only [shE, shA, h2, h3]
/-- the addresses that may be written -/
def Aw (E : En) (SH : SHT) : Nat → Prop := fun q => ∃ k, k < SH.1.length ∧ E.1 k = q
def EOK (E : En) (SH : SHT) : Prop := ∀ i j, i < SH.1.length → j < SH.1.length → E.1 i = E.1 j → i = j
theorem wd_D {E : En} {SH : SHT} (h : EOK E SH) (σ : St) : va_D (Aw E SH) (wd E SH σ) := by
  refine ⟨fun i j p q hi hj e => ?_, fun k q hk => ?_⟩
  · obtain ⟨c, h1, rfl⟩ := wd_get' hi
    obtain ⟨c', h2, rfl⟩ := wd_get' hj
    exact h i j (List.getElem?_eq_some_iff.mp h1).1 (List.getElem?_eq_some_iff.mp h2).1 e
  · obtain ⟨c, h1, rfl⟩ := wd_get' hk
    exact ⟨k, (List.getElem?_eq_some_iff.mp h1).1, rfl⟩
/-- the tables' words that stay in a call -/
def TB : List Cond := lw_tbl.filter goodWord
theorem TB_of {w : Cond} (h : w ∈ lw_tbl) (hg : goodWord w = true) : w ∈ TB := List.mem_filter.mpr ⟨h, hg⟩
theorem TB_t {w : Cond} (i : Nat) (h : tables_1[i]? = some w) (hg : goodWord w = true) : w ∈ TB := TB_of (List.mem_append_right _ (List.mem_of_getElem? h)) hg
theorem TB_p {w : Cond} (i : Nat) (h : (k2_sels lw_privs)[i]? = some w) (hg : goodWord w = true) : w ∈ TB := TB_of (List.mem_append_left _ (List.mem_of_getElem? h)) hg
theorem TB_good : GoodIn TB TB := fun w h => ⟨h, good_of_word (List.mem_filter.mp h).2⟩
/-! what is known at every start: classes, static arrays, String constants -/
def stn (i : Nat) : String := if i = 0 then "KIND_ABOVE" else if i = 1 then "LAW_MOST" else if i = 2 then "LAW_AT_FIRST" else "BODIES"
def tabL (i : Nat) : List Int32 := if i = 0 then [-1, 0, 0, 1, 2, 0] else if i = 1 then [9, 9, 50, 99] else if i = 2 then [2, 3, 20, 20] else [10, 11, 12, 13, 10, 20, 12, 13, 30, 11, 12, 31, 51, 20, 50, 13, 40, 41, 12, 31, 10, 11, 61, 60]
def stV (i j : Nat) : Int32 := (tabL i).getD j 0
def strK (i : Nat) : Nat := ([129, 131, 133, 135, 137, 139, 141, 143, 145, 147, 96, 98, 100, 47, 106, 70] : List Nat).getD i 0
def strT (i : Nat) : String := (["engineer", "doubter", "expert", "dowser", "drunkard", "sworn", "seep", "bog", "drink", "spring", "at", "sure", "sense", "height", "is", "water"] : List String).getD i ""
def strB : List (List Int32) := [[101, 110, 103, 105, 110, 101, 101, 114], [100, 111, 117, 98, 116, 101, 114], [101, 120, 112, 101, 114, 116], [100, 111, 119, 115, 101, 114], [100, 114, 117, 110, 107, 97, 114, 100], [115, 119, 111, 114, 110], [115, 101, 101, 112], [98, 111, 103], [100, 114, 105, 110, 107], [115, 112, 114, 105, 110, 103], [97, 116], [115, 117, 114, 101], [115, 101, 110, 115, 101], [104, 101, 105, 103, 104, 116], [105, 115], [119, 97, 116, 101, 114]]
def strN : List Nat := [8, 7, 6, 6, 8, 5, 4, 3, 5, 6, 2, 4, 5, 6, 2, 5]
/-- the links between nest mates -/
def NW : List Cond := [.fieldLinkNest "SpringOaths$Moor" 43 "SpringOaths" "LAW_AT_FIRST" "[I" "SpringOaths", .fieldLinkNest "SpringOaths$Tape" 83 "SpringOaths" "LAW_MOST" "[I" "SpringOaths", .fieldLinkNest "SpringOaths$Acting" 40 "SpringOaths" "BODIES" "[I" "SpringOaths", .methodLinkNest "SpringOaths" 24 ⟨"SpringOaths$Tape", "<init>", "()V"⟩ "SpringOaths", .methodLinkNest "SpringOaths" 57 ⟨"SpringOaths$Acting", "<init>", "()V"⟩ "SpringOaths", .methodLinkNest "SpringOaths$Moor" 132 ⟨"SpringOaths", "heldSure", "(I)I"⟩ "SpringOaths"]
theorem NW_warm {s U : State} (hW : s.WarmedH U.vm) {w : Cond} (hw : w ∈ NW) (h : va_Nw w s) : va_Nw w U := by
  simp only [NW, List.mem_cons, List.not_mem_nil, or_false] at hw
  rcases hw with rfl | rfl | rfl | rfl | rfl | rfl
  · exact va_Nw.warmF hW h
  · exact va_Nw.warmF hW h
  · exact va_Nw.warmF hW h
  · exact va_Nw.warmM hW h
  · exact va_Nw.warmM hW h
  · exact va_Nw.warmM hW h
theorem NW_tabs {w : Cond} (hw : w ∈ NW) : w.onTables = true := by
  simp only [NW, List.mem_cons, List.not_mem_nil, or_false] at hw
  rcases hw with rfl | rfl | rfl | rfl | rfl | rfl <;> rfl
/-- the known part of a start: heap H, tables of U, nothing of it among the cells A -/
def Gk (E : En) (X : Nat × (Nat → Int32)) (A : Nat → Prop) (U : State) (H : Heap) : Prop :=
  va_K E.2.1 vwCl (tyl E) U ∧
  (∀ i, i < 4 → va_Z "SpringOaths" (stn i) "[I" (.ref (E.1 (1000 + i))) A U H ∧ va_T .int (E.1 (1000 + i)) (tabL i).length (fun j => .int (stV i j)) A U H) ∧
  va_Z "java/lang/String" "COMPACT_STRINGS" "Z" (.int 1) A U H ∧
  (va_Z "jdk/internal/util/Preconditions" "SIOOBE_FORMATTER" "Ljava/util/function/BiFunction;" .null A U H ∨ va_Z "jdk/internal/util/Preconditions" "SIOOBE_FORMATTER" "Ljava/util/function/BiFunction;" (.ref (E.1 4000)) A U H) ∧
  vk_S 16 strN strB (fun i => E.1 (2000 + i)) (fun i => E.1 (3000 + i)) A U H ∧
  (∀ i, i < 16 → vk_R "SpringOaths$Tape" (strK i) (strT i) (E.1 (2000 + i)) U) ∧
  (∀ w ∈ NW, va_Nw w U) ∧
  va_T .int (E.1 5000) X.1 (fun j => .int (X.2 j)) A U H
theorem Gk.move {E : En} {X : Nat × (Nat → Int32)} {A : Nat → Prop} {u U : State} {H : Heap} (hvm : u.vm.Alike U.vm) (hR : ∀ i, i < 16 → vk_R "SpringOaths$Tape" (strK i) (strT i) (E.1 (2000 + i)) u → vk_R "SpringOaths$Tape" (strK i) (strT i) (E.1 (2000 + i)) U) (hN : ∀ w ∈ NW, va_Nw w u → va_Nw w U) (h : Gk E X A u H) : Gk E X A U H := by
  obtain ⟨h1, h2, h3, h4, h5, h6, h7, h8⟩ := h
  exact ⟨va_K.moved hvm h1, fun i hi => ⟨va_Z.moved hvm (h2 i hi).1, va_T.moved hvm (h2 i hi).2⟩, va_Z.moved hvm h3, h4.imp (va_Z.moved hvm) (va_Z.moved hvm), vk_S.moved hvm h5, fun i hi => hR i hi (h6 i hi), fun w hw => hN w hw (h7 w hw), va_T.moved hvm h8⟩
theorem Gk.warm {E : En} {X : Nat × (Nat → Int32)} {A : Nat → Prop} {s U : State} {H : Heap} (hW : s.WarmedH U.vm) (h : Gk E X A s H) : Gk E X A U H := Gk.move hW.alike (fun _ _ q => vk_R.warm hW q) (fun _ hw q => NW_warm hW hw q) h
theorem Gk.same {E : En} {X : Nat × (Nat → Int32)} {A : Nat → Prop} {u U : State} {H : Heap} (hv : U.vm = u.vm) (h : Gk E X A u H) : Gk E X A U H := Gk.move (by rw [hv]; exact Vm.Alike.refl _) (fun _ _ q => vk_R.same hv q) (fun _ hw q => va_Nw.same (NW_tabs hw) hv.symm q) h
theorem Gk.kept {E : En} {X : Nat × (Nat → Int32)} {A : Nat → Prop} {U : State} {H H1 : Heap} (hq : ∀ a : Nat, a < H.size → ¬ A a → H1[a]? = H[a]?) (h : Gk E X A U H) : Gk E X A U H1 := by
  obtain ⟨h1, h2, h3, h4, h5, h6, h7, h8⟩ := h
  exact ⟨h1, fun i hi => ⟨(h2 i hi).1.kept hq, (h2 i hi).2.kept hq⟩, h3.kept hq, h4.imp (fun q => q.kept hq) (fun q => q.kept hq), h5.kept hq, h6, h7, h8.kept hq⟩
theorem Gk.narrow {E : En} {X : Nat × (Nat → Int32)} {A B : Nat → Prop} {U : State} {H : Heap} (hAB : ∀ q, B q → A q) (h : Gk E X A U H) : Gk E X B U H := by
  obtain ⟨h1, h2, h3, h4, h5, h6, h7, h8⟩ := h
  exact ⟨h1, fun i hi => ⟨(h2 i hi).1.narrow hAB, (h2 i hi).2.narrow hAB⟩, h3.narrow hAB, h4.imp (fun q => q.narrow hAB) (fun q => q.narrow hAB), h5.narrow hAB, h6, h7, h8.narrow hAB⟩
/-- a method: its class, its code, its locals, its answer's type -/
abbrev MC : Type := String × ByteArray × Nat × Option FieldType
def cv (E : En) (v : Value) : Value := match v with
  | .ref k => .ref (E.1 k)
  | w => w
def cvs (E : En) (l : List Value) : List Value := l.map (cv E)
def cvL (E : En) (l : List (Nat × Value)) : List (Nat × Value) := l.map (fun q => (q.1, cv E q.2))
def rmd (d : Nat) : Room := { frames := d, cells := 0, slots := 0, locals := 200 * d }
/-- what a walk of a method has of its start -/
def Cx (M : MC) (d : Nat) (SH : SHT) (p : Program) (R : Room) (s : State) (m : MethodId) (args : Array Value) (meth : Method) (c : Code) (E : En) : Prop :=
  p.tables.exec = Jvm.exec ∧ c.code = M.2.1 ∧ c.maxLocals = M.2.2.1 ∧ s.vm.findClass M.1 = some m.cls ∧ (∀ w ∈ TB, w.before args s = true) ∧ EOK E SH ∧ Gk E SH.2 (Aw E SH) s s.heap ∧ d ≤ R.frames ∧ 200 * d ≤ R.locals
/-- the row that ends a method with an answer -/
def RetI (M : MC) (pc : Nat) (vr : Option Value) : Prop := match vr with
  | none => decode M.2.1 pc = .ok (.return_, 1) ∧ M.2.2.2 = none
  | some (.int v) => decode M.2.1 pc = .ok (.ireturn, 1) ∧ ∃ ty, M.2.2.2 = some ty ∧ narrow ty (.int v) = .int v
  | some (.long _) => decode M.2.1 pc = .ok (.lreturn, 1) ∧ M.2.2.2 = some .long
  | some (.ref _) => decode M.2.1 pc = .ok (.areturn, 1) ∧ ∃ n, M.2.2.2 = some (.object n)
  | _ => False
def VC (M : MC) (d : Nat) (SH : SHT) (vr : Option Value) (σr : St) (pc : Nat) (L : List (Nat × Value)) (st : List Value) (σ : St) : Prop :=
  ∀ (p : Program) (l : Launch) (e : Env) (R : Room) (s : State) (m : MethodId) (args : Array Value) (below : List Frame) (meth : Method) (c : Code) (E : En) (Q : State → Prop) (cells slots : Nat),
    Cx M d SH p R s m args meth c E → cells ≤ R.cells → slots ≤ R.slots →
    (∀ (pc : Nat) (ls : Array Slot) (H : Heap) (locs : List Loc), RetI M pc vr → va_P E.2.1 vwCl (wd E SH σr) H → va_S (Aw E SH) s.heap H locs → W p l e R s m args below meth c H locs cells slots Q (F0 m pc ls (cvs E vr.toList))) →
    ∀ (H : Heap) (locs : List Loc) (ls : Array Slot), va_P E.2.1 vwCl (wd E SH σ) H → va_S (Aw E SH) s.heap H locs → lv_has ls M.2.2.1 (cvL E L) → W p l e R s m args below meth c H locs cells slots Q (F0 m pc ls (cvs E st))
/-- the machine at pc comes to the answer that o has -/
def VF {α : Type} (M : MC) (d : Nat) (SH : SHT) (ι : α → Option Value × St) (pc : Nat) (L : List (Nat × Value)) (st : List Value) (σ : St) (o : Option α) : Prop :=
  ∀ z, o = some z → VC M d SH (ι z).1 (ι z).2 pc L st σ
def jI (q : Int32 × St) : Option Value × St := (some (.int q.1), q.2)
def jL (q : Int64 × St) : Option Value × St := (some (.long q.1), q.2)
def jR (q : Nat × St) : Option Value × St := (some (.ref q.1), q.2)
def jV (q : St) : Option Value × St := (none, q)
def jP (σ : St) (q : Int32) : Option Value × St := (some (.int q), σ)
def jQ (σ : St) (q : Int64) : Option Value × St := (some (.long q), σ)
def jS (σ : St) (q : Nat) : Option Value × St := (some (.ref q), σ)
def jU (σ : St) (_ : Unit) : Option Value × St := (none, σ)
def ib (i : Int32) (n : Nat) : Bool := decide (¬ (i < 0 ∨ n ≤ i.toNatClampNeg))
def ix (i : Int32) : Nat := i.toNatClampNeg
theorem ib_in {i : Int32} {n : Nat} (h : ib i n = true) : vp_in i n := (of_decide_eq_true h : ¬ (i < 0 ∨ n ≤ i.toNatClampNeg))
def gd {α : Type} (b : Bool) (o : Option α) : Option α := if b = true then o else none
def bn {α β : Type} (a : α) (f : α → β) : β := f a
def lkp (L : List (Nat × Value)) (i : Nat) : Option Value := (L.find? (fun q => q.1 == i)).map (fun q => q.2)
def lst1 (L : List (Nat × Value)) (i : Nat) (v : Value) : List (Nat × Value) := (i, v) :: L.filter (fun q => !(q.1 == i) && !(q.1 + 1 == i && q.2.category == 2))
def lst2 (L : List (Nat × Value)) (i : Nat) (v : Value) : List (Nat × Value) := (i, v) :: L.filter (fun q => !(q.1 == i) && (!(q.1 == i + 1) && !(q.1 + 1 == i && q.2.category == 2)))
theorem cv_cat (E : En) (v : Value) : (cv E v).category = v.category := by cases v <;> rfl
theorem lkp_at {E : En} {ls : Array Slot} {nL : Nat} {L : List (Nat × Value)} (h : lv_has ls nL (cvL E L)) {i : Nat} {v : Value} (hk : lkp L i = some v) : ls[i]? = some (.val (cv E v)) := by
  unfold lkp at hk
  cases hf : L.find? (fun q => q.1 == i) with
  | none => rw [hf] at hk; cases hk
  | some q =>
    rw [hf] at hk
    have hm := List.mem_of_find?_eq_some hf
    have hp := List.find?_some hf
    have he : q.2 = v := Option.some.inj hk
    have hi : q.1 = i := by simpa using hp
    have := h.2.2 (q.1, cv E q.2) (List.mem_map.mpr ⟨q, hm, rfl⟩)
    rw [hi, he] at this
    exact this
theorem lst1_cv (E : En) (L : List (Nat × Value)) (i : Nat) (v : Value) : (i, cv E v) :: (cvL E L).filter (fun q => !(q.1 == i) && !(q.1 + 1 == i && q.2.category == 2)) = cvL E (lst1 L i v) := by
  unfold lst1 cvL
  rw [List.map_cons, List.filter_map]
  congr 2
  apply List.filter_congr
  intro q _
  simp [cv_cat]
theorem lst2_cv (E : En) (L : List (Nat × Value)) (i : Nat) (v : Value) : (i, cv E v) :: (cvL E L).filter (fun q => !(q.1 == i) && (!(q.1 == i + 1) && !(q.1 + 1 == i && q.2.category == 2))) = cvL E (lst2 L i v) := by
  unfold lst2 cvL
  rw [List.map_cons, List.filter_map]
  congr 2
  apply List.filter_congr
  intro q _
  simp [cv_cat]
theorem lv_less {E : En} {ls : Array Slot} {nL : Nat} {L L' : List (Nat × Value)} (h : lv_has ls nL (cvL E L)) (hl : ∀ q ∈ L', q ∈ L) : lv_has ls nL (cvL E L') := by
  refine ⟨h.1, h.2.1, fun q hq => ?_⟩
  obtain ⟨x, hx, rfl⟩ := List.mem_map.mp hq
  exact h.2.2 _ (List.mem_map.mpr ⟨x, hl x hx, rfl⟩)
def GF (own : String) (idx ci j : Nat) : Prop := ∃ (C : String) (T : u_T) (N : Nat), vwCl[ci]? = some (C, T, N) ∧ (∀ w ∈ u_ws C T N, w ∈ TB) ∧ j < N ∧ Cond.fieldLink own idx (T j).1 (T j).2.1 (T j).2.2.1 ∈ TB
def GP (own : String) (idx ci j : Nat) (ty : FieldType) : Prop := ∃ (C : String) (T : u_T) (N : Nat) (ty0 : Nat → FieldType), vwCl[ci]? = some (C, T, N) ∧ (∀ w ∈ u_ws C T N, w ∈ TB) ∧ j < N ∧ Cond.fieldLink own idx (T j).1 (T j).2.1 (T j).2.2.1 ∈ TB ∧ (∀ k, k < N → parseFieldDescriptor (T k).2.2.1 = some (ty0 k)) ∧ (∀ a, a < N → ∀ b, b < N → a ≠ b → (T a).2.1 ≠ (T b).2.1) ∧ (T j).2.2.2 = false ∧ parseFieldDescriptor (T j).2.2.1 = some ty
def GCopy (own : String) (idx : Nat) : Prop := Cond.methodLink own idx arraycopyName ∈ TB ∧ Cond.native arraycopyName ∈ TB ∧ Cond.static arraycopyName ∈ TB ∧ Cond.initialized "java/lang/System" ∈ TB
def GS (own : String) (idx i : Nat) : Prop := i < 4 ∧ (Cond.fieldLink own idx "SpringOaths" (stn i) "[I" ∈ TB ∨ ∃ host, Cond.fieldLinkNest own idx "SpringOaths" (stn i) "[I" host ∈ NW)
def GC (y : MethodName) (My : MC) (n : Nat) : Prop := Cond.code y My.2.1 My.2.2.1 My.2.2.2 ∈ TB ∧ Cond.initialized y.cls ∈ TB ∧ y.cls ≠ "java/lang/invoke/MethodHandle" ∧ y.cls ≠ "java/lang/invoke/VarHandle" ∧ (parseMethodDescriptor y.desc).map (fun d => d.parameters.length) = some n ∧ My.2.2.1 ≤ 100
def GV (own : String) (idx : Nat) (y : MethodName) (My : MC) (n : Nat) : Prop := GC y My n ∧ Cond.methodLink own idx y ∈ TB ∧ Cond.instanceMethod y ∈ TB ∧ Cond.selects y.cls y y ∈ TB
def GT (own : String) (idx : Nat) (y : MethodName) (My : MC) (n : Nat) : Prop := GC y My n ∧ Cond.static y ∈ TB ∧ (Cond.methodLink own idx y ∈ TB ∨ ∃ host, Cond.methodLinkNest own idx y host ∈ NW)
end
section
def FU : Nat := 1000
theorem iX0 : ∀ w ∈ u_ws RX0 TX0 6, w ∈ TB := by
  intro w hw
  obtain ⟨k, hk, rfl⟩ := List.mem_map.mp hw
  have hk := List.mem_range.mp hk
  match k, hk with
  | 0, _ => exact TB_t 126 (by decide +kernel) (by decide +kernel)
  | 1, _ => exact TB_t 128 (by decide +kernel) (by decide +kernel)
  | 2, _ => exact TB_t 130 (by decide +kernel) (by decide +kernel)
  | 3, _ => exact TB_t 132 (by decide +kernel) (by decide +kernel)
  | 4, _ => exact TB_t 134 (by decide +kernel) (by decide +kernel)
  | 5, _ => exact TB_t 136 (by decide +kernel) (by decide +kernel)
  | k + 6, h => exact absurd h (by omega)
theorem iX1 : ∀ w ∈ u_ws RX1 TX1 12, w ∈ TB := by
  intro w hw
  obtain ⟨k, hk, rfl⟩ := List.mem_map.mp hw
  have hk := List.mem_range.mp hk
  match k, hk with
  | 0, _ => exact TB_t 61 (by decide +kernel) (by decide +kernel)
  | 1, _ => exact TB_t 63 (by decide +kernel) (by decide +kernel)
  | 2, _ => exact TB_t 65 (by decide +kernel) (by decide +kernel)
  | 3, _ => exact TB_t 67 (by decide +kernel) (by decide +kernel)
  | 4, _ => exact TB_t 69 (by decide +kernel) (by decide +kernel)
  | 5, _ => exact TB_t 71 (by decide +kernel) (by decide +kernel)
  | 6, _ => exact TB_t 73 (by decide +kernel) (by decide +kernel)
  | 7, _ => exact TB_t 75 (by decide +kernel) (by decide +kernel)
  | 8, _ => exact TB_t 77 (by decide +kernel) (by decide +kernel)
  | 9, _ => exact TB_t 79 (by decide +kernel) (by decide +kernel)
  | 10, _ => exact TB_t 81 (by decide +kernel) (by decide +kernel)
  | 11, _ => exact TB_t 83 (by decide +kernel) (by decide +kernel)
  | k + 12, h => exact absurd h (by omega)
theorem iX2 : ∀ w ∈ u_ws RX2 TX2 4, w ∈ TB := by
  intro w hw
  obtain ⟨k, hk, rfl⟩ := List.mem_map.mp hw
  have hk := List.mem_range.mp hk
  match k, hk with
  | 0, _ => exact TB_t 98 (by decide +kernel) (by decide +kernel)
  | 1, _ => exact TB_t 100 (by decide +kernel) (by decide +kernel)
  | 2, _ => exact TB_t 102 (by decide +kernel) (by decide +kernel)
  | 3, _ => exact TB_t 104 (by decide +kernel) (by decide +kernel)
  | k + 4, h => exact absurd h (by omega)
theorem iX3 : ∀ w ∈ u_ws RX3 TX3 14, w ∈ TB := by
  intro w hw
  obtain ⟨k, hk, rfl⟩ := List.mem_map.mp hw
  have hk := List.mem_range.mp hk
  match k, hk with
  | 0, _ => exact TB_t 154 (by decide +kernel) (by decide +kernel)
  | 1, _ => exact TB_t 156 (by decide +kernel) (by decide +kernel)
  | 2, _ => exact TB_t 158 (by decide +kernel) (by decide +kernel)
  | 3, _ => exact TB_t 160 (by decide +kernel) (by decide +kernel)
  | 4, _ => exact TB_t 162 (by decide +kernel) (by decide +kernel)
  | 5, _ => exact TB_t 164 (by decide +kernel) (by decide +kernel)
  | 6, _ => exact TB_t 166 (by decide +kernel) (by decide +kernel)
  | 7, _ => exact TB_t 168 (by decide +kernel) (by decide +kernel)
  | 8, _ => exact TB_t 170 (by decide +kernel) (by decide +kernel)
  | 9, _ => exact TB_t 172 (by decide +kernel) (by decide +kernel)
  | 10, _ => exact TB_t 174 (by decide +kernel) (by decide +kernel)
  | 11, _ => exact TB_t 176 (by decide +kernel) (by decide +kernel)
  | 12, _ => exact TB_t 178 (by decide +kernel) (by decide +kernel)
  | 13, _ => exact TB_t 180 (by decide +kernel) (by decide +kernel)
  | k + 14, h => exact absurd h (by omega)
theorem iX4 : ∀ w ∈ u_ws RX4 TX4 26, w ∈ TB := by
  intro w hw
  obtain ⟨k, hk, rfl⟩ := List.mem_map.mp hw
  have hk := List.mem_range.mp hk
  match k, hk with
  | 0, _ => exact TB_t 812 (by decide +kernel) (by decide +kernel)
  | 1, _ => exact TB_t 814 (by decide +kernel) (by decide +kernel)
  | 2, _ => exact TB_t 816 (by decide +kernel) (by decide +kernel)
  | 3, _ => exact TB_t 818 (by decide +kernel) (by decide +kernel)
  | 4, _ => exact TB_t 820 (by decide +kernel) (by decide +kernel)
  | 5, _ => exact TB_t 822 (by decide +kernel) (by decide +kernel)
  | 6, _ => exact TB_t 824 (by decide +kernel) (by decide +kernel)
  | 7, _ => exact TB_t 826 (by decide +kernel) (by decide +kernel)
  | 8, _ => exact TB_t 828 (by decide +kernel) (by decide +kernel)
  | 9, _ => exact TB_t 830 (by decide +kernel) (by decide +kernel)
  | 10, _ => exact TB_t 832 (by decide +kernel) (by decide +kernel)
  | 11, _ => exact TB_t 834 (by decide +kernel) (by decide +kernel)
  | 12, _ => exact TB_t 836 (by decide +kernel) (by decide +kernel)
  | 13, _ => exact TB_t 838 (by decide +kernel) (by decide +kernel)
  | 14, _ => exact TB_t 840 (by decide +kernel) (by decide +kernel)
  | 15, _ => exact TB_t 842 (by decide +kernel) (by decide +kernel)
  | 16, _ => exact TB_t 844 (by decide +kernel) (by decide +kernel)
  | 17, _ => exact TB_t 846 (by decide +kernel) (by decide +kernel)
  | 18, _ => exact TB_t 848 (by decide +kernel) (by decide +kernel)
  | 19, _ => exact TB_t 850 (by decide +kernel) (by decide +kernel)
  | 20, _ => exact TB_t 852 (by decide +kernel) (by decide +kernel)
  | 21, _ => exact TB_t 854 (by decide +kernel) (by decide +kernel)
  | 22, _ => exact TB_t 856 (by decide +kernel) (by decide +kernel)
  | 23, _ => exact TB_t 858 (by decide +kernel) (by decide +kernel)
  | 24, _ => exact TB_t 860 (by decide +kernel) (by decide +kernel)
  | 25, _ => exact TB_t 862 (by decide +kernel) (by decide +kernel)
  | k + 26, h => exact absurd h (by omega)
def isActing (SH : SHT) (b : Nat) : Prop := SH.1[b]? = some (.inl (0, [some (some (b + 1)), none, none, none, none, none])) ∧ SH.1[b + 1]? = some (.inr (0, 30, []))
def isMoor (SH : SHT) (b : Nat) : Prop := SH.1[b]? = some (.inl (1, [some (some (b + 1)), none, none, some (some (b + 2)), some (some (b + 3)), some (some (b + 4)), none, some (some (b + 5)), some (some (b + 6)), some (some (b + 7)), some (some (b + 8)), none])) ∧ SH.1[b + 1]? = some (.inr (0, 4, [])) ∧ SH.1[b + 2]? = some (.inr (0, 32, [])) ∧ SH.1[b + 3]? = some (.inr (0, 32, [])) ∧ SH.1[b + 4]? = some (.inr (0, 32, [])) ∧ SH.1[b + 5]? = some (.inr (0, 8, [])) ∧ SH.1[b + 6]? = some (.inr (0, 8, [])) ∧ SH.1[b + 7]? = some (.inr (0, 8, [])) ∧ SH.1[b + 8]? = some (.inr (0, 8, []))
def isTape (SH : SHT) (b : Nat) : Prop := SH.1[b]? = some (.inl (2, [some (some (b + 1)), none, none, none])) ∧ SH.1[b + 1]? = some (.inr (1, 200, []))
def isModel (SH : SHT) (b : Nat) : Prop := SH.1[b]? = some (.inl (4, [some (some (b + 1)), some (some (b + 2)), some (some (b + 3)), none, none, some (some (b + 4)), some (some (b + 5)), none, none, none, none, none, some (some (b + 6)), none, some (some (b + 7)), none, some (some (b + 8)), some (some (b + 9)), some (some (b + 10)), some (some (b + 11)), some (some (b + 12)), some (some (b + 13)), some (some (b + 14)), none, none, none])) ∧ SH.1[b + 1]? = some (.inr (0, 103, [])) ∧ SH.1[b + 2]? = some (.inr (0, 103, [])) ∧ SH.1[b + 3]? = some (.inr (0, 103, [])) ∧ SH.1[b + 4]? = some (.inr (0, 32, [])) ∧ SH.1[b + 5]? = some (.inr (0, 200, [])) ∧ SH.1[b + 6]? = some (.inr (2, 128, [])) ∧ SH.1[b + 7]? = some (.inr (0, 30, [])) ∧ SH.1[b + 8]? = some (.inr (0, 4, [])) ∧ SH.1[b + 9]? = some (.inr (0, 4, [])) ∧ SH.1[b + 10]? = some (.inr (3, 160, [])) ∧ SH.1[b + 11]? = some (.inr (0, 4, [])) ∧ SH.1[b + 12]? = some (.inr (0, 4, [])) ∧ SH.1[b + 13]? = some (.inr (0, 4, [])) ∧ SH.1[b + 14]? = some (.inr (0, 30, []))
def isOaths (SH : SHT) (b : Nat) : Prop := SH.1[b]? = some (.inl (3, [some (some (b + 1)), some (some (b + 10)), some (some (b + 19)), none, some (some (b + 28)), some (some (b + 30)), none, some (some (b + 41)), some (some (b + 42)), some (some (b + 43)), some (some (b + 48)), some (some (b + 49)), some (some (b + 50)), some (some (b + 51))])) ∧ isMoor SH (b + 1) ∧ isMoor SH (b + 10) ∧ isMoor SH (b + 19) ∧ isTape SH (b + 28) ∧ SH.1[b + 30]? = some (.inr (4, 10, (List.range 10).map (fun i => b + 31 + i))) ∧ (∀ i, i < 10 → SH.1[b + 31 + i]? = some (.inr (0, 3, []))) ∧ SH.1[b + 41]? = some (.inr (0, 4, [])) ∧ SH.1[b + 42]? = some (.inr (0, 4, [])) ∧ SH.1[b + 43]? = some (.inr (5, 4, (List.range 4).map (fun i => b + 44 + i))) ∧ (∀ i, i < 4 → SH.1[b + 44 + i]? = some (.inr (3, 40, []))) ∧ SH.1[b + 48]? = some (.inr (0, 4, [])) ∧ SH.1[b + 49]? = some (.inr (0, 4, [])) ∧ SH.1[b + 50]? = some (.inr (0, 4, [])) ∧ isActing SH (b + 51)
def mX0_forget : MC := (RX0, cX0_forget, 1, none)
def mX0_own : MC := (RX0, cX0_own, 2, some .int)
def mX0_note : MC := (RX0, cX0_note, 2, none)
def mX0_part : MC := (RX0, cX0_part, 2, some .int)
def mX0_run : MC := (RX0, cX0_run, 5, some .int)
def mX0_perform : MC := (RX0, cX0_perform, 7, some .int)
def mX1_clear : MC := (RX1, cX1_clear, 2, none)
def mX1_become : MC := (RX1, cX1_become, 2, none)
def mX1_comes : MC := (RX1, cX1_comes, 5, some .int)
def mX1_lower : MC := (RX1, cX1_lower, 3, some .int)
def mX1_lowestBeside : MC := (RX1, cX1_lowestBeside, 3, some .int)
def mX1_raise : MC := (RX1, cX1_raise, 4, none)
def mX1_isWet : MC := (RX1, cX1_isWet, 2, some .boolean)
def mX1_isLost : MC := (RX1, cX1_isLost, 2, some .boolean)
def mX1_isIdle : MC := (RX1, cX1_isIdle, 2, some .boolean)
def mJ9_abs_0f7a4 : MC := (RJ9, cJ9_abs_0f7a4, 1, some .int)
def mX1_disagree : MC := (RX1, cX1_disagree, 3, some .boolean)
def mX1_welling : MC := (RX1, cX1_welling, 4, some .int)
def mX1_losing : MC := (RX1, cX1_losing, 3, some .int)
def mX1_winning : MC := (RX1, cX1_winning, 3, some .int)
def mX1_opponents : MC := (RX1, cX1_opponents, 4, some .int)
def mX1_peopleAt : MC := (RX1, cX1_peopleAt, 4, some .int)
def mX1_wellingAt : MC := (RX1, cX1_wellingAt, 4, some .int)
def mJ6_bitCount_0f7a4 : MC := (RJ6, cJ6_bitCount_0f7a4, 1, some .int)
def mX1_disputesAt : MC := (RX1, cX1_disputesAt, 4, some .int)
def mX1_disputes : MC := (RX1, cX1_disputes, 3, some .int)
def mX1_lostPeople : MC := (RX1, cX1_lostPeople, 3, some .int)
def mX1_allSure : MC := (RX1, cX1_allSure, 3, some .int)
def mX1_allWater : MC := (RX1, cX1_allWater, 3, some .int)
def mX1_wetCells : MC := (RX1, cX1_wetCells, 4, some .long)
def mX1_trodCells : MC := (RX1, cX1_trodCells, 4, some .long)
def mX1_hollows : MC := (RX1, cX1_hollows, 4, some .long)
def mX1_partOfRow : MC := (RX1, cX1_partOfRow, 3, some .int)
def mJ9_min_7cf53 : MC := (RJ9, cJ9_min_7cf53, 2, some .int)
def mX1_pour : MC := (RX1, cX1_pour, 3, none)
def mX1_wellUp : MC := (RX1, cX1_wellUp, 3, none)
def mX1_runDown : MC := (RX1, cX1_runDown, 3, none)
def mJ9_max_7cf53 : MC := (RJ9, cJ9_max_7cf53, 2, some .int)
def mX3_heldSure : MC := (RX3, cX3_heldSure, 1, some .int)
def mX1_changeMinds : MC := (RX1, cX1_changeMinds, 3, none)
def mX1_passYear : MC := (RX1, cX1_passYear, 1, none)
def mX1_passYears : MC := (RX1, cX1_passYears, 3, none)
def mX1_draw : MC := (RX1, cX1_draw, 1, some .int)
def mX1_passYearByDraws : MC := (RX1, cX1_passYearByDraws, 2, none)
def mX2_takes : MC := (RX2, cX2_takes, 5, some .boolean)
def mX2_skipBlanks : MC := (RX2, cX2_skipBlanks, 2, none)
def mX2_kindName : MC := (RX2, cX2_kindName, 1, some (.object "java/lang/String"))
def mX2_isLetter : MC := (RX2, cX2_isLetter, 2, some .boolean)
def mJ0_length_8abf5 : MC := (RJ0, cJ0_length_8abf5, 1, some .int)
def mJ0_charAt_5068e : MC := (RJ0, cJ0_charAt_5068e, 2, some .char)
def mX2_isHere : MC := (RX2, cX2_isHere, 4, some .boolean)
def mX2_kindHere : MC := (RX2, cX2_kindHere, 2, some .int)
def mX2_lawName : MC := (RX2, cX2_lawName, 1, some (.object "java/lang/String"))
def mX2_lawHere : MC := (RX2, cX2_lawHere, 2, some .int)
def mX2_refuse : MC := (RX2, cX2_refuse, 2, none)
def mX2_readName : MC := (RX2, cX2_readName, 2, none)
def mX2_isDigit : MC := (RX2, cX2_isDigit, 2, some .boolean)
def mX2_readNumber : MC := (RX2, cX2_readNumber, 5, some .int)
def mX2_readPerson : MC := (RX2, cX2_readPerson, 6, none)
def mX2_readCell : MC := (RX2, cX2_readCell, 2, some .int)
def mX2_readSentence : MC := (RX2, cX2_readSentence, 5, none)
def mX2_readSign : MC := (RX2, cX2_readSign, 2, none)
def mX2_readInto : MC := (RX2, cX2_readInto, 3, some .int)
def mX3_feed : MC := (RX3, cX3_feed, 4, some .int)
def mX3_moor : MC := (RX3, cX3_moor, 2, some .int)
def mX3_isLaw : MC := (RX3, cX3_isLaw, 1, some .boolean)
def mX3_isWithin : MC := (RX3, cX3_isWithin, 2, some .boolean)
def mX3_set : MC := (RX3, cX3_set, 4, some .int)
def mX3_lawOf : MC := (RX3, cX3_lawOf, 2, some .int)
def mX3_isKind : MC := (RX3, cX3_isKind, 1, some .boolean)
def mX3_isCell : MC := (RX3, cX3_isCell, 1, some .boolean)
def mX3_person : MC := (RX3, cX3_person, 5, some .int)
def mX3_isPerson : MC := (RX3, cX3_isPerson, 2, some .boolean)
def mX3_of : MC := (RX3, cX3_of, 3, some .int)
def mX3_loses : MC := (RX3, cX3_loses, 2, some .int)
def mX3_mind : MC := (RX3, cX3_mind, 5, some .int)
def mX3_sure : MC := (RX3, cX3_sure, 4, some .int)
def mX3_bring : MC := (RX3, cX3_bring, 4, some .int)
def mX3_cell : MC := (RX3, cX3_cell, 3, some .int)
def mX3_lowest : MC := (RX3, cX3_lowest, 2, some .int)
def mX3_water : MC := (RX3, cX3_water, 4, some .int)
def mX3_height : MC := (RX3, cX3_height, 4, some .int)
def mX3_wets : MC := (RX3, cX3_wets, 2, some .long)
def mJ13_bitCount_95d88 : MC := (RJ13, cJ13_bitCount_95d88, 2, some .int)
def mX3_years : MC := (RX3, cX3_years, 2, some .int)
def mX3_seed : MC := (RX3, cX3_seed, 3, some .int)
def mX3_year : MC := (RX3, cX3_year, 1, some .int)
def mX3_revel : MC := (RX3, cX3_revel, 6, some .int)
def mX3_state : MC := (RX3, cX3_state, 2, some .int)
def mX3_level : MC := (RX3, cX3_level, 3, some .int)
def mX3_damp : MC := (RX3, cX3_damp, 3, some .int)
def mX3_loss : MC := (RX3, cX3_loss, 3, some .int)
def mX3_drowned : MC := (RX3, cX3_drowned, 2, some .int)
def mX3_isShortTime : MC := (RX3, cX3_isShortTime, 1, some .boolean)
def mX3_whereFor : MC := (RX3, cX3_whereFor, 7, some .int)
def mX3_kindFor : MC := (RX3, cX3_kindFor, 7, some .int)
def mX3_annoyed : MC := (RX3, cX3_annoyed, 5, some .int)
def mX3_levelWithout : MC := (RX3, cX3_levelWithout, 4, some .int)
def mX3_needed : MC := (RX3, cX3_needed, 7, some .int)
def mX3_fewest : MC := (RX3, cX3_fewest, 7, some .int)
def mX3_ends : MC := (RX3, cX3_ends, 4, some .int)
def mX3_isSheet : MC := (RX3, cX3_isSheet, 1, some .boolean)
def mX3_fitsWith : MC := (RX3, cX3_fitsWith, 8, some .boolean)
def mX3_fits : MC := (RX3, cX3_fits, 8, some .int)
def mX3_partOf : MC := (RX3, cX3_partOf, 12, some .long)
def mX3_odds : MC := (RX3, cX3_odds, 9, some .long)
def mX3_hope : MC := (RX3, cX3_hope, 3, some .long)
def mX3_prove : MC := (RX3, cX3_prove, 5, some .int)
def mX3_isRowPart : MC := (RX3, cX3_isRowPart, 3, some .boolean)
def mX3_row : MC := (RX3, cX3_row, 3, some .int)
def mX3_alterRow : MC := (RX3, cX3_alterRow, 5, some .int)
def mX3_judge : MC := (RX3, cX3_judge, 4, some .int)
def mX3_minds : MC := (RX3, cX3_minds, 6, some .int)
def mX3_sheet : MC := (RX3, cX3_sheet, 6, some .int)
def mX3_narrowed : MC := (RX3, cX3_narrowed, 2, some .long)
def mX3_put : MC := (RX3, cX3_put, 4, some .int)
def mX3_isSort : MC := (RX3, cX3_isSort, 1, some .boolean)
def mX3_item : MC := (RX3, cX3_item, 4, some .int)
def mX3_isShelf : MC := (RX3, cX3_isShelf, 1, some .boolean)
def mX3_shelve : MC := (RX3, cX3_shelve, 5, some .int)
def mX3_shelf : MC := (RX3, cX3_shelf, 4, some .int)
def mX3_holdsRow : MC := (RX3, cX3_holdsRow, 2, some .boolean)
def mX3_holdsPerson : MC := (RX3, cX3_holdsPerson, 2, some .boolean)
def mX3_isUnder : MC := (RX3, cX3_isUnder, 4, some .boolean)
def mX3_taken : MC := (RX3, cX3_taken, 4, some .int)
def mX3_act : MC := (RX3, cX3_act, 5, some .int)
def mX3_trace : MC := (RX3, cX3_trace, 2, some .int)
def mX3_many : MC := (RX3, cX3_many, 2, some .int)
def mX3_keep : MC := (RX3, cX3_keep, 1, some .int)
def mX3_again : MC := (RX3, cX3_again, 1, some .int)
def mX4_in : MC := (RX4, cX4_in, 6, some .boolean)
def mX4_first : MC := (RX4, cX4_first, 3, none)
def mX4_held : MC := (RX4, cX4_held, 1, some .int)
def mX4_isPerson : MC := (RX4, cX4_isPerson, 2, some .boolean)
def mX4_isCell : MC := (RX4, cX4_isCell, 1, some .boolean)
def mX4_get : MC := (RX4, cX4_get, 3, some .int)
def mX4_puts : MC := (RX4, cX4_puts, 4, none)
def mX4_keepAside : MC := (RX4, cX4_keepAside, 2, none)
def mX4_putBack : MC := (RX4, cX4_putBack, 2, none)
def mX4_bits : MC := (RX4, cX4_bits, 3, some .int)
def mX4_wells : MC := (RX4, cX4_wells, 4, some .int)
def mX4_losesOf : MC := (RX4, cX4_losesOf, 2, some .int)
def mX4_winsOf : MC := (RX4, cX4_winsOf, 2, some .int)
def mX4_doDisagree : MC := (RX4, cX4_doDisagree, 6, some .boolean)
def mX4_lowestOf : MC := (RX4, cX4_lowestOf, 7, some .int)
def mX4_isWet : MC := (RX4, cX4_isWet, 2, some .boolean)
def mX4_comesTo : MC := (RX4, cX4_comesTo, 3, none)
def mX4_yearGoes : MC := (RX4, cX4_yearGoes, 4, none)
def mX4_yearsGo : MC := (RX4, cX4_yearsGo, 3, none)
def mX4_set : MC := (RX4, cX4_set, 4, some .int)
def mX4_lawOf : MC := (RX4, cX4_lawOf, 2, some .int)
def mX4_comes : MC := (RX4, cX4_comes, 6, some .int)
def mX4_person : MC := (RX4, cX4_person, 5, some .int)
def mX4_foesOf : MC := (RX4, cX4_foesOf, 4, some .int)
def mX4_of : MC := (RX4, cX4_of, 3, some .int)
def mX4_loses : MC := (RX4, cX4_loses, 2, some .int)
def mX4_mind : MC := (RX4, cX4_mind, 5, some .int)
def mX4_sure : MC := (RX4, cX4_sure, 4, some .int)
def mX4_bring : MC := (RX4, cX4_bring, 4, some .int)
def mX4_atCell : MC := (RX4, cX4_atCell, 6, some .int)
def mX4_cell : MC := (RX4, cX4_cell, 3, some .int)
def mX4_lowest : MC := (RX4, cX4_lowest, 2, some .int)
def mX4_water : MC := (RX4, cX4_water, 4, some .int)
def mX4_height : MC := (RX4, cX4_height, 4, some .int)
def mX4_isSuch : MC := (RX4, cX4_isSuch, 3, some .boolean)
def mX4_cellsSuch : MC := (RX4, cX4_cellsSuch, 4, some .int)
def mX4_wets : MC := (RX4, cX4_wets, 5, some .long)
def mX4_lost : MC := (RX4, cX4_lost, 3, some .int)
def mX4_years : MC := (RX4, cX4_years, 2, some .int)
def mX4_seed : MC := (RX4, cX4_seed, 3, some .int)
def mX4_drawn : MC := (RX4, cX4_drawn, 1, some .int)
def mX4_yearByDraws : MC := (RX4, cX4_yearByDraws, 2, none)
def mX4_year : MC := (RX4, cX4_year, 1, some .int)
def mX4_revel : MC := (RX4, cX4_revel, 6, some .int)
def mX4_state : MC := (RX4, cX4_state, 4, some .int)
def mX4_levelWith : MC := (RX4, cX4_levelWith, 6, some .int)
def mX4_level : MC := (RX4, cX4_level, 3, some .int)
def mX4_isDrowned : MC := (RX4, cX4_isDrowned, 3, some .boolean)
def mX4_whenFirst : MC := (RX4, cX4_whenFirst, 6, some .int)
def mX4_damp : MC := (RX4, cX4_damp, 2, some .int)
def mX4_loss : MC := (RX4, cX4_loss, 2, some .int)
def mX4_drowned : MC := (RX4, cX4_drowned, 1, some .int)
def mX4_isAsk : MC := (RX4, cX4_isAsk, 4, some .boolean)
def mX4_mostBy : MC := (RX4, cX4_mostBy, 9, some .int)
def mX4_whereFor : MC := (RX4, cX4_whereFor, 4, some .int)
def mX4_kindFor : MC := (RX4, cX4_kindFor, 4, some .int)
def mX4_annoyed : MC := (RX4, cX4_annoyed, 5, some .int)
def mX4_levelWithout : MC := (RX4, cX4_levelWithout, 5, some .int)
def mX4_needed : MC := (RX4, cX4_needed, 7, some .int)
def mX4_fewest : MC := (RX4, cX4_fewest, 6, some .int)
def mX4_ends : MC := (RX4, cX4_ends, 3, some .int)
def mX4_isTold : MC := (RX4, cX4_isTold, 7, some .boolean)
def mX4_isSheet : MC := (RX4, cX4_isSheet, 1, some .boolean)
def mX4_fits : MC := (RX4, cX4_fits, 8, some .int)
def mX4_common : MC := (RX4, cX4_common, 10, some .long)
def mX4_partOf : MC := (RX4, cX4_partOf, 5, some .long)
def mX4_odds : MC := (RX4, cX4_odds, 11, some .long)
def mX4_hope : MC := (RX4, cX4_hope, 3, some .long)
def mX4_feed : MC := (RX4, cX4_feed, 5, some .int)
def mX4_isRow : MC := (RX4, cX4_isRow, 3, some .boolean)
def mX4_wordThere : MC := (RX4, cX4_wordThere, 4, some .int)
def mX4_next : MC := (RX4, cX4_next, 1, none)
def mX4_isWord : MC := (RX4, cX4_isWord, 2, some .boolean)
def mX4_reads : MC := (RX4, cX4_reads, 2, some .boolean)
def mX4_readsWord : MC := (RX4, cX4_readsWord, 2, some .boolean)
def mX4_readsPerson : MC := (RX4, cX4_readsPerson, 8, some .boolean)
def mX4_readsCell : MC := (RX4, cX4_readsCell, 5, some .boolean)
def mX4_readsLaw : MC := (RX4, cX4_readsLaw, 4, some .boolean)
def mX4_readsAll : MC := (RX4, cX4_readsAll, 5, some .boolean)
def mX4_moor : MC := (RX4, cX4_moor, 3, some .int)
def mX4_mustBe : MC := (RX4, cX4_mustBe, 3, some .int)
def mX4_prove : MC := (RX4, cX4_prove, 5, some .int)
def mX4_row : MC := (RX4, cX4_row, 3, some .int)
def mX4_alterRow : MC := (RX4, cX4_alterRow, 5, some .int)
def mX4_judge : MC := (RX4, cX4_judge, 5, some .int)
def mX4_minds : MC := (RX4, cX4_minds, 6, some .int)
def mX4_sheet : MC := (RX4, cX4_sheet, 5, some .int)
def mX4_put : MC := (RX4, cX4_put, 4, some .int)
def mX4_item : MC := (RX4, cX4_item, 4, some .int)
def mX4_shelf : MC := (RX4, cX4_shelf, 6, some .int)
def mX4_holdsNothing : MC := (RX4, cX4_holdsNothing, 2, some .boolean)
def mX4_above : MC := (RX4, cX4_above, 1, some .int)
def mX4_taken : MC := (RX4, cX4_taken, 4, some .int)
def mX4_ran : MC := (RX4, cX4_ran, 2, none)
def mX4_swearsBy : MC := (RX4, cX4_swearsBy, 3, some .int)
def mX4_doubtsBy : MC := (RX4, cX4_doubtsBy, 4, some .int)
def mX4_partsBy : MC := (RX4, cX4_partsBy, 4, some .int)
def mX4_signsBy : MC := (RX4, cX4_signsBy, 4, some .int)
def mX4_act : MC := (RX4, cX4_act, 6, some .int)
def mX4_trace : MC := (RX4, cX4_trace, 2, some .int)
def mX4_many : MC := (RX4, cX4_many, 2, some .int)
def mX4_keep : MC := (RX4, cX4_keep, 2, some .int)
def mX4_again : MC := (RX4, cX4_again, 2, some .int)
def mJ0_coder_7d493 : MC := (RJ0, cJ0_coder_7d493, 1, some .byte)
def mJ0_isLatin1_aae02 : MC := (RJ0, cJ0_isLatin1_aae02, 1, some .boolean)
def mJ1_charAt_3b067 : MC := (RJ1, cJ1_charAt_3b067, 2, some .char)
def mJ0_checkIndex_df160 : MC := (RJ0, cJ0_checkIndex_df160, 2, none)
def mJ3_checkIndex_8e157 : MC := (RJ3, cJ3_checkIndex_8e157, 3, some .int)
theorem kp_X0_50 : GP RX0 50 0 1 .int := ⟨RX0, TX0, 6, tyX0, rfl, iX0, by decide, TB_t 120 (by decide +kernel) (by decide +kernel), tyX0_ok, nmX0, by decide +kernel, by decide +kernel⟩
theorem kc_X0_forget : GC yX0_forget mX0_forget 0 := ⟨TB_t 731 (by decide +kernel) (by decide +kernel), TB_t 4 (by decide +kernel) (by decide +kernel), by decide +kernel, by decide +kernel, by decide +kernel, by decide⟩
theorem ks_X0_40 : GS RX0 40 3 := ⟨by decide, Or.inr ⟨"SpringOaths", List.mem_of_getElem? (i := 2) (by decide +kernel)⟩⟩
theorem kf_X0_19 : GF RX0 19 0 3 := ⟨RX0, TX0, 6, rfl, iX0, by decide, TB_t 123 (by decide +kernel) (by decide +kernel)⟩
theorem kc_X0_own : GC yX0_own mX0_own 1 := ⟨TB_t 740 (by decide +kernel) (by decide +kernel), TB_t 4 (by decide +kernel) (by decide +kernel), by decide +kernel, by decide +kernel, by decide +kernel, by decide⟩
theorem kf_X0_50 : GF RX0 50 0 1 := ⟨RX0, TX0, 6, rfl, iX0, by decide, TB_t 120 (by decide +kernel) (by decide +kernel)⟩
theorem kf_X0_9 : GF RX0 9 0 0 := ⟨RX0, TX0, 6, rfl, iX0, by decide, TB_t 118 (by decide +kernel) (by decide +kernel)⟩
theorem kc_X0_note : GC yX0_note mX0_note 1 := ⟨TB_t 750 (by decide +kernel) (by decide +kernel), TB_t 4 (by decide +kernel) (by decide +kernel), by decide +kernel, by decide +kernel, by decide +kernel, by decide⟩
theorem kf_X0_22 : GF RX0 22 0 4 := ⟨RX0, TX0, 6, rfl, iX0, by decide, TB_t 124 (by decide +kernel) (by decide +kernel)⟩
theorem kf_X0_15 : GF RX0 15 0 2 := ⟨RX0, TX0, 6, rfl, iX0, by decide, TB_t 122 (by decide +kernel) (by decide +kernel)⟩
theorem kp_X0_25 : GP RX0 25 0 5 .boolean := ⟨RX0, TX0, 6, tyX0, rfl, iX0, by decide, TB_t 125 (by decide +kernel) (by decide +kernel), tyX0_ok, nmX0, by decide +kernel, by decide +kernel⟩
theorem kc_X0_part : GC yX0_part mX0_part 1 := ⟨TB_t 754 (by decide +kernel) (by decide +kernel), TB_t 4 (by decide +kernel) (by decide +kernel), by decide +kernel, by decide +kernel, by decide +kernel, by decide⟩
theorem kf_X0_25 : GF RX0 25 0 5 := ⟨RX0, TX0, 6, rfl, iX0, by decide, TB_t 125 (by decide +kernel) (by decide +kernel)⟩
theorem kv_X0_43 : GV RX0 43 yX0_note mX0_note 1 := ⟨kc_X0_note, TB_t 747 (by decide +kernel) (by decide +kernel), TB_t 749 (by decide +kernel) (by decide +kernel), TB_p 29 (by decide +kernel) (by decide +kernel)⟩
theorem kv_X0_32 : GV RX0 32 yX0_own mX0_own 1 := ⟨kc_X0_own, TB_t 737 (by decide +kernel) (by decide +kernel), TB_t 739 (by decide +kernel) (by decide +kernel), TB_p 27 (by decide +kernel) (by decide +kernel)⟩
theorem kc_X0_run : GC yX0_run mX0_run 3 := ⟨TB_t 746 (by decide +kernel) (by decide +kernel), TB_t 4 (by decide +kernel) (by decide +kernel), by decide +kernel, by decide +kernel, by decide +kernel, by decide⟩
theorem kv_X0_36 : GV RX0 36 yX0_run mX0_run 3 := ⟨kc_X0_run, TB_t 743 (by decide +kernel) (by decide +kernel), TB_t 745 (by decide +kernel) (by decide +kernel), TB_p 28 (by decide +kernel) (by decide +kernel)⟩
theorem kv_X0_47 : GV RX0 47 yX0_part mX0_part 1 := ⟨kc_X0_part, TB_t 751 (by decide +kernel) (by decide +kernel), TB_t 753 (by decide +kernel) (by decide +kernel), TB_p 30 (by decide +kernel) (by decide +kernel)⟩
theorem kp_X0_15 : GP RX0 15 0 2 .int := ⟨RX0, TX0, 6, tyX0, rfl, iX0, by decide, TB_t 122 (by decide +kernel) (by decide +kernel), tyX0_ok, nmX0, by decide +kernel, by decide +kernel⟩
theorem kp_X0_19 : GP RX0 19 0 3 .int := ⟨RX0, TX0, 6, tyX0, rfl, iX0, by decide, TB_t 123 (by decide +kernel) (by decide +kernel), tyX0_ok, nmX0, by decide +kernel, by decide +kernel⟩
theorem kp_X0_22 : GP RX0 22 0 4 .int := ⟨RX0, TX0, 6, tyX0, rfl, iX0, by decide, TB_t 124 (by decide +kernel) (by decide +kernel), tyX0_ok, nmX0, by decide +kernel, by decide +kernel⟩
theorem kv_X0_29 : GV RX0 29 yX0_forget mX0_forget 0 := ⟨kc_X0_forget, TB_t 736 (by decide +kernel) (by decide +kernel), TB_t 729 (by decide +kernel) (by decide +kernel), TB_t 730 (by decide +kernel) (by decide +kernel)⟩
theorem kc_X0_perform : GC yX0_perform mX0_perform 5 := ⟨TB_t 735 (by decide +kernel) (by decide +kernel), TB_t 4 (by decide +kernel) (by decide +kernel), by decide +kernel, by decide +kernel, by decide +kernel, by decide⟩
theorem kf_X1_9 : GF RX1 9 1 0 := ⟨RX1, TX1, 12, rfl, iX1, by decide, TB_t 34 (by decide +kernel) (by decide +kernel)⟩
theorem ks_X1_43 : GS RX1 43 2 := ⟨by decide, Or.inr ⟨"SpringOaths", List.mem_of_getElem? (i := 0) (by decide +kernel)⟩⟩
theorem kf_X1_15 : GF RX1 15 1 3 := ⟨RX1, TX1, 12, rfl, iX1, by decide, TB_t 41 (by decide +kernel) (by decide +kernel)⟩
theorem kf_X1_18 : GF RX1 18 1 4 := ⟨RX1, TX1, 12, rfl, iX1, by decide, TB_t 43 (by decide +kernel) (by decide +kernel)⟩
theorem kf_X1_21 : GF RX1 21 1 5 := ⟨RX1, TX1, 12, rfl, iX1, by decide, TB_t 46 (by decide +kernel) (by decide +kernel)⟩
theorem kp_X1_46 : GP RX1 46 1 1 .int := ⟨RX1, TX1, 12, tyX1, rfl, iX1, by decide, TB_t 37 (by decide +kernel) (by decide +kernel), tyX1_ok, nmX1, by decide +kernel, by decide +kernel⟩
theorem kp_X1_49 : GP RX1 49 1 6 .int := ⟨RX1, TX1, 12, tyX1, rfl, iX1, by decide, TB_t 48 (by decide +kernel) (by decide +kernel), tyX1_ok, nmX1, by decide +kernel, by decide +kernel⟩
theorem kp_X1_52 : GP RX1 52 1 11 .int := ⟨RX1, TX1, 12, tyX1, rfl, iX1, by decide, TB_t 59 (by decide +kernel) (by decide +kernel), tyX1_ok, nmX1, by decide +kernel, by decide +kernel⟩
theorem kc_X1_clear : GC yX1_clear mX1_clear 0 := ⟨TB_t 31 (by decide +kernel) (by decide +kernel), TB_t 2 (by decide +kernel) (by decide +kernel), by decide +kernel, by decide +kernel, by decide +kernel, by decide⟩
theorem kcopy_X1_55 : GCopy RX1 55 := ⟨TB_t 347 (by decide +kernel) (by decide +kernel), TB_t 349 (by decide +kernel) (by decide +kernel), TB_t 348 (by decide +kernel) (by decide +kernel), TB_t 11 (by decide +kernel) (by decide +kernel)⟩
theorem kf_X1_24 : GF RX1 24 1 7 := ⟨RX1, TX1, 12, rfl, iX1, by decide, TB_t 51 (by decide +kernel) (by decide +kernel)⟩
theorem kf_X1_27 : GF RX1 27 1 8 := ⟨RX1, TX1, 12, rfl, iX1, by decide, TB_t 53 (by decide +kernel) (by decide +kernel)⟩
theorem kf_X1_30 : GF RX1 30 1 9 := ⟨RX1, TX1, 12, rfl, iX1, by decide, TB_t 55 (by decide +kernel) (by decide +kernel)⟩
theorem kf_X1_33 : GF RX1 33 1 10 := ⟨RX1, TX1, 12, rfl, iX1, by decide, TB_t 57 (by decide +kernel) (by decide +kernel)⟩
theorem kf_X1_46 : GF RX1 46 1 1 := ⟨RX1, TX1, 12, rfl, iX1, by decide, TB_t 37 (by decide +kernel) (by decide +kernel)⟩
theorem kf_X1_36 : GF RX1 36 1 2 := ⟨RX1, TX1, 12, rfl, iX1, by decide, TB_t 39 (by decide +kernel) (by decide +kernel)⟩
theorem kp_X1_36 : GP RX1 36 1 2 .int := ⟨RX1, TX1, 12, tyX1, rfl, iX1, by decide, TB_t 39 (by decide +kernel) (by decide +kernel), tyX1_ok, nmX1, by decide +kernel, by decide +kernel⟩
theorem kf_X1_49 : GF RX1 49 1 6 := ⟨RX1, TX1, 12, rfl, iX1, by decide, TB_t 48 (by decide +kernel) (by decide +kernel)⟩
theorem kf_X1_52 : GF RX1 52 1 11 := ⟨RX1, TX1, 12, rfl, iX1, by decide, TB_t 59 (by decide +kernel) (by decide +kernel)⟩
theorem kc_X1_become : GC yX1_become mX1_become 1 := ⟨TB_t 346 (by decide +kernel) (by decide +kernel), TB_t 2 (by decide +kernel) (by decide +kernel), by decide +kernel, by decide +kernel, by decide +kernel, by decide⟩
theorem kc_X1_comes : GC yX1_comes mX1_comes 4 := ⟨TB_t 317 (by decide +kernel) (by decide +kernel), TB_t 2 (by decide +kernel) (by decide +kernel), by decide +kernel, by decide +kernel, by decide +kernel, by decide⟩
theorem kc_X1_lower : GC yX1_lower mX1_lower 2 := ⟨TB_t 335 (by decide +kernel) (by decide +kernel), TB_t 2 (by decide +kernel) (by decide +kernel), by decide +kernel, by decide +kernel, by decide +kernel, by decide⟩
theorem kv_X1_65 : GV RX1 65 yX1_lower mX1_lower 2 := ⟨kc_X1_lower, TB_t 332 (by decide +kernel) (by decide +kernel), TB_t 334 (by decide +kernel) (by decide +kernel), TB_p 13 (by decide +kernel) (by decide +kernel)⟩
theorem kc_X1_lowestBeside : GC yX1_lowestBeside mX1_lowestBeside 1 := ⟨TB_t 331 (by decide +kernel) (by decide +kernel), TB_t 2 (by decide +kernel) (by decide +kernel), by decide +kernel, by decide +kernel, by decide +kernel, by decide⟩
theorem kv_X1_61 : GV RX1 61 yX1_lowestBeside mX1_lowestBeside 1 := ⟨kc_X1_lowestBeside, TB_t 328 (by decide +kernel) (by decide +kernel), TB_t 330 (by decide +kernel) (by decide +kernel), TB_p 12 (by decide +kernel) (by decide +kernel)⟩
theorem kc_X1_raise : GC yX1_raise mX1_raise 2 := ⟨TB_t 327 (by decide +kernel) (by decide +kernel), TB_t 2 (by decide +kernel) (by decide +kernel), by decide +kernel, by decide +kernel, by decide +kernel, by decide⟩
theorem kc_X1_isWet : GC yX1_isWet mX1_isWet 1 := ⟨TB_t 480 (by decide +kernel) (by decide +kernel), TB_t 2 (by decide +kernel) (by decide +kernel), by decide +kernel, by decide +kernel, by decide +kernel, by decide⟩
theorem kc_X1_isLost : GC yX1_isLost mX1_isLost 1 := ⟨TB_t 395 (by decide +kernel) (by decide +kernel), TB_t 2 (by decide +kernel) (by decide +kernel), by decide +kernel, by decide +kernel, by decide +kernel, by decide⟩
theorem kc_X1_isIdle : GC yX1_isIdle mX1_isIdle 1 := ⟨TB_t 391 (by decide +kernel) (by decide +kernel), TB_t 2 (by decide +kernel) (by decide +kernel), by decide +kernel, by decide +kernel, by decide +kernel, by decide⟩
theorem kc_J9_abs_0f7a4 : GC yJ9_abs_0f7a4 mJ9_abs_0f7a4 1 := ⟨TB_t 411 (by decide +kernel) (by decide +kernel), TB_t 10 (by decide +kernel) (by decide +kernel), by decide +kernel, by decide +kernel, by decide +kernel, by decide⟩
theorem kv_X1_69 : GV RX1 69 yX1_isLost mX1_isLost 1 := ⟨kc_X1_isLost, TB_t 392 (by decide +kernel) (by decide +kernel), TB_t 393 (by decide +kernel) (by decide +kernel), TB_t 394 (by decide +kernel) (by decide +kernel)⟩
theorem kv_X1_73 : GV RX1 73 yX1_isIdle mX1_isIdle 1 := ⟨kc_X1_isIdle, TB_t 388 (by decide +kernel) (by decide +kernel), TB_t 389 (by decide +kernel) (by decide +kernel), TB_t 390 (by decide +kernel) (by decide +kernel)⟩
theorem kt_X1_76 : GT RX1 76 yJ9_abs_0f7a4 mJ9_abs_0f7a4 1 := ⟨kc_J9_abs_0f7a4, TB_t 410 (by decide +kernel) (by decide +kernel), Or.inl (TB_t 409 (by decide +kernel) (by decide +kernel))⟩
theorem kc_X1_disagree : GC yX1_disagree mX1_disagree 2 := ⟨TB_t 408 (by decide +kernel) (by decide +kernel), TB_t 2 (by decide +kernel) (by decide +kernel), by decide +kernel, by decide +kernel, by decide +kernel, by decide⟩
theorem kc_X1_welling : GC yX1_welling mX1_welling 1 := ⟨TB_t 387 (by decide +kernel) (by decide +kernel), TB_t 2 (by decide +kernel) (by decide +kernel), by decide +kernel, by decide +kernel, by decide +kernel, by decide⟩
theorem kc_X1_losing : GC yX1_losing mX1_losing 1 := ⟨TB_t 419 (by decide +kernel) (by decide +kernel), TB_t 2 (by decide +kernel) (by decide +kernel), by decide +kernel, by decide +kernel, by decide +kernel, by decide⟩
theorem kc_X1_winning : GC yX1_winning mX1_winning 1 := ⟨TB_t 399 (by decide +kernel) (by decide +kernel), TB_t 2 (by decide +kernel) (by decide +kernel), by decide +kernel, by decide +kernel, by decide +kernel, by decide⟩
theorem kv_X1_81 : GV RX1 81 yX1_disagree mX1_disagree 2 := ⟨kc_X1_disagree, TB_t 405 (by decide +kernel) (by decide +kernel), TB_t 406 (by decide +kernel) (by decide +kernel), TB_t 407 (by decide +kernel) (by decide +kernel)⟩
theorem kc_X1_opponents : GC yX1_opponents mX1_opponents 1 := ⟨TB_t 404 (by decide +kernel) (by decide +kernel), TB_t 2 (by decide +kernel) (by decide +kernel), by decide +kernel, by decide +kernel, by decide +kernel, by decide⟩
theorem kc_X1_peopleAt : GC yX1_peopleAt mX1_peopleAt 1 := ⟨TB_t 439 (by decide +kernel) (by decide +kernel), TB_t 2 (by decide +kernel) (by decide +kernel), by decide +kernel, by decide +kernel, by decide +kernel, by decide⟩
theorem kv_X1_85 : GV RX1 85 yX1_welling mX1_welling 1 := ⟨kc_X1_welling, TB_t 444 (by decide +kernel) (by decide +kernel), TB_t 385 (by decide +kernel) (by decide +kernel), TB_t 386 (by decide +kernel) (by decide +kernel)⟩
theorem kc_X1_wellingAt : GC yX1_wellingAt mX1_wellingAt 1 := ⟨TB_t 443 (by decide +kernel) (by decide +kernel), TB_t 2 (by decide +kernel) (by decide +kernel), by decide +kernel, by decide +kernel, by decide +kernel, by decide⟩
theorem kcon_J6_265 : Cond.constant RJ6 265 (1431655765 : Int32) ∈ TB := TB_t 453 (by decide +kernel) (by decide +kernel)
theorem kcon_J6_266 : Cond.constant RJ6 266 (858993459 : Int32) ∈ TB := TB_t 454 (by decide +kernel) (by decide +kernel)
theorem kcon_J6_267 : Cond.constant RJ6 267 (252645135 : Int32) ∈ TB := TB_t 455 (by decide +kernel) (by decide +kernel)
theorem kc_J6_bitCount_0f7a4 : GC yJ6_bitCount_0f7a4 mJ6_bitCount_0f7a4 1 := ⟨TB_t 452 (by decide +kernel) (by decide +kernel), TB_t 12 (by decide +kernel) (by decide +kernel), by decide +kernel, by decide +kernel, by decide +kernel, by decide⟩
theorem kv_X1_88 : GV RX1 88 yX1_opponents mX1_opponents 1 := ⟨kc_X1_opponents, TB_t 449 (by decide +kernel) (by decide +kernel), TB_t 402 (by decide +kernel) (by decide +kernel), TB_t 403 (by decide +kernel) (by decide +kernel)⟩
theorem kt_X1_91 : GT RX1 91 yJ6_bitCount_0f7a4 mJ6_bitCount_0f7a4 1 := ⟨kc_J6_bitCount_0f7a4, TB_t 451 (by decide +kernel) (by decide +kernel), Or.inl (TB_t 450 (by decide +kernel) (by decide +kernel))⟩
theorem kc_X1_disputesAt : GC yX1_disputesAt mX1_disputesAt 1 := ⟨TB_t 448 (by decide +kernel) (by decide +kernel), TB_t 2 (by decide +kernel) (by decide +kernel), by decide +kernel, by decide +kernel, by decide +kernel, by decide⟩
theorem kc_X1_disputes : GC yX1_disputes mX1_disputes 0 := ⟨TB_t 575 (by decide +kernel) (by decide +kernel), TB_t 2 (by decide +kernel) (by decide +kernel), by decide +kernel, by decide +kernel, by decide +kernel, by decide⟩
theorem kc_X1_lostPeople : GC yX1_lostPeople mX1_lostPeople 0 := ⟨TB_t 554 (by decide +kernel) (by decide +kernel), TB_t 2 (by decide +kernel) (by decide +kernel), by decide +kernel, by decide +kernel, by decide +kernel, by decide⟩
theorem kc_X1_allSure : GC yX1_allSure mX1_allSure 0 := ⟨TB_t 571 (by decide +kernel) (by decide +kernel), TB_t 2 (by decide +kernel) (by decide +kernel), by decide +kernel, by decide +kernel, by decide +kernel, by decide⟩
theorem kc_X1_allWater : GC yX1_allWater mX1_allWater 0 := ⟨TB_t 567 (by decide +kernel) (by decide +kernel), TB_t 2 (by decide +kernel) (by decide +kernel), by decide +kernel, by decide +kernel, by decide +kernel, by decide⟩
theorem kv_X1_96 : GV RX1 96 yX1_isWet mX1_isWet 1 := ⟨kc_X1_isWet, TB_t 477 (by decide +kernel) (by decide +kernel), TB_t 478 (by decide +kernel) (by decide +kernel), TB_t 479 (by decide +kernel) (by decide +kernel)⟩
theorem kc_X1_wetCells : GC yX1_wetCells mX1_wetCells 0 := ⟨TB_t 476 (by decide +kernel) (by decide +kernel), TB_t 2 (by decide +kernel) (by decide +kernel), by decide +kernel, by decide +kernel, by decide +kernel, by decide⟩
theorem kc_X1_trodCells : GC yX1_trodCells mX1_trodCells 0 := ⟨TB_t 484 (by decide +kernel) (by decide +kernel), TB_t 2 (by decide +kernel) (by decide +kernel), by decide +kernel, by decide +kernel, by decide +kernel, by decide⟩
theorem kc_X1_hollows : GC yX1_hollows mX1_hollows 0 := ⟨TB_t 488 (by decide +kernel) (by decide +kernel), TB_t 2 (by decide +kernel) (by decide +kernel), by decide +kernel, by decide +kernel, by decide +kernel, by decide⟩
theorem kv_X1_99 : GV RX1 99 yX1_lostPeople mX1_lostPeople 0 := ⟨kc_X1_lostPeople, TB_t 656 (by decide +kernel) (by decide +kernel), TB_t 552 (by decide +kernel) (by decide +kernel), TB_t 553 (by decide +kernel) (by decide +kernel)⟩
theorem kc_X1_partOfRow : GC yX1_partOfRow mX1_partOfRow 2 := ⟨TB_t 655 (by decide +kernel) (by decide +kernel), TB_t 2 (by decide +kernel) (by decide +kernel), by decide +kernel, by decide +kernel, by decide +kernel, by decide⟩
theorem kc_J9_min_7cf53 : GC yJ9_min_7cf53 mJ9_min_7cf53 2 := ⟨TB_t 311 (by decide +kernel) (by decide +kernel), TB_t 10 (by decide +kernel) (by decide +kernel), by decide +kernel, by decide +kernel, by decide +kernel, by decide⟩
theorem kt_X1_119 : GT RX1 119 yJ9_min_7cf53 mJ9_min_7cf53 2 := ⟨kc_J9_min_7cf53, TB_t 310 (by decide +kernel) (by decide +kernel), Or.inl (TB_t 510 (by decide +kernel) (by decide +kernel))⟩
theorem kc_X1_pour : GC yX1_pour mX1_pour 2 := ⟨TB_t 509 (by decide +kernel) (by decide +kernel), TB_t 2 (by decide +kernel) (by decide +kernel), by decide +kernel, by decide +kernel, by decide +kernel, by decide⟩
theorem kv_X1_122 : GV RX1 122 yX1_pour mX1_pour 2 := ⟨kc_X1_pour, TB_t 506 (by decide +kernel) (by decide +kernel), TB_t 508 (by decide +kernel) (by decide +kernel), TB_p 17 (by decide +kernel) (by decide +kernel)⟩
theorem kc_X1_wellUp : GC yX1_wellUp mX1_wellUp 0 := ⟨TB_t 505 (by decide +kernel) (by decide +kernel), TB_t 2 (by decide +kernel) (by decide +kernel), by decide +kernel, by decide +kernel, by decide +kernel, by decide⟩
theorem kc_X1_runDown : GC yX1_runDown mX1_runDown 0 := ⟨TB_t 514 (by decide +kernel) (by decide +kernel), TB_t 2 (by decide +kernel) (by decide +kernel), by decide +kernel, by decide +kernel, by decide +kernel, by decide⟩
theorem kc_J9_max_7cf53 : GC yJ9_max_7cf53 mJ9_max_7cf53 2 := ⟨TB_t 527 (by decide +kernel) (by decide +kernel), TB_t 10 (by decide +kernel) (by decide +kernel), by decide +kernel, by decide +kernel, by decide +kernel, by decide⟩
theorem kt_X3_291 : GT RX3 291 yJ9_min_7cf53 mJ9_min_7cf53 2 := ⟨kc_J9_min_7cf53, TB_t 310 (by decide +kernel) (by decide +kernel), Or.inl (TB_t 524 (by decide +kernel) (by decide +kernel))⟩
theorem kt_X3_296 : GT RX3 296 yJ9_max_7cf53 mJ9_max_7cf53 2 := ⟨kc_J9_max_7cf53, TB_t 526 (by decide +kernel) (by decide +kernel), Or.inl (TB_t 525 (by decide +kernel) (by decide +kernel))⟩
theorem kc_X3_heldSure : GC yX3_heldSure mX3_heldSure 1 := ⟨TB_t 523 (by decide +kernel) (by decide +kernel), TB_t 1 (by decide +kernel) (by decide +kernel), by decide +kernel, by decide +kernel, by decide +kernel, by decide⟩
theorem kv_X1_129 : GV RX1 129 yX1_winning mX1_winning 1 := ⟨kc_X1_winning, TB_t 520 (by decide +kernel) (by decide +kernel), TB_t 397 (by decide +kernel) (by decide +kernel), TB_t 398 (by decide +kernel) (by decide +kernel)⟩
theorem kv_X1_126 : GV RX1 126 yX1_losing mX1_losing 1 := ⟨kc_X1_losing, TB_t 519 (by decide +kernel) (by decide +kernel), TB_t 417 (by decide +kernel) (by decide +kernel), TB_t 418 (by decide +kernel) (by decide +kernel)⟩
theorem kt_X1_132 : GT RX1 132 yX3_heldSure mX3_heldSure 1 := ⟨kc_X3_heldSure, TB_t 522 (by decide +kernel) (by decide +kernel), Or.inr ⟨"SpringOaths", List.mem_of_getElem? (i := 5) (by decide +kernel)⟩⟩
theorem kc_X1_changeMinds : GC yX1_changeMinds mX1_changeMinds 0 := ⟨TB_t 518 (by decide +kernel) (by decide +kernel), TB_t 2 (by decide +kernel) (by decide +kernel), by decide +kernel, by decide +kernel, by decide +kernel, by decide⟩
theorem kv_X1_106 : GV RX1 106 yX1_wellUp mX1_wellUp 0 := ⟨kc_X1_wellUp, TB_t 502 (by decide +kernel) (by decide +kernel), TB_t 504 (by decide +kernel) (by decide +kernel), TB_p 16 (by decide +kernel) (by decide +kernel)⟩
theorem kv_X1_109 : GV RX1 109 yX1_runDown mX1_runDown 0 := ⟨kc_X1_runDown, TB_t 511 (by decide +kernel) (by decide +kernel), TB_t 513 (by decide +kernel) (by decide +kernel), TB_p 18 (by decide +kernel) (by decide +kernel)⟩
theorem kv_X1_112 : GV RX1 112 yX1_changeMinds mX1_changeMinds 0 := ⟨kc_X1_changeMinds, TB_t 515 (by decide +kernel) (by decide +kernel), TB_t 517 (by decide +kernel) (by decide +kernel), TB_p 19 (by decide +kernel) (by decide +kernel)⟩
theorem kc_X1_passYear : GC yX1_passYear mX1_passYear 0 := ⟨TB_t 501 (by decide +kernel) (by decide +kernel), TB_t 2 (by decide +kernel) (by decide +kernel), by decide +kernel, by decide +kernel, by decide +kernel, by decide⟩
theorem kv_X1_103 : GV RX1 103 yX1_passYear mX1_passYear 0 := ⟨kc_X1_passYear, TB_t 498 (by decide +kernel) (by decide +kernel), TB_t 499 (by decide +kernel) (by decide +kernel), TB_t 500 (by decide +kernel) (by decide +kernel)⟩
theorem kc_X1_passYears : GC yX1_passYears mX1_passYears 1 := ⟨TB_t 497 (by decide +kernel) (by decide +kernel), TB_t 2 (by decide +kernel) (by decide +kernel), by decide +kernel, by decide +kernel, by decide +kernel, by decide⟩
theorem kcon_X1_118 : Cond.constant RX1 118 (1103515245 : Int32) ∈ TB := TB_t 550 (by decide +kernel) (by decide +kernel)
theorem kc_X1_draw : GC yX1_draw mX1_draw 0 := ⟨TB_t 549 (by decide +kernel) (by decide +kernel), TB_t 2 (by decide +kernel) (by decide +kernel), by decide +kernel, by decide +kernel, by decide +kernel, by decide⟩
theorem kv_X1_115 : GV RX1 115 yX1_draw mX1_draw 0 := ⟨kc_X1_draw, TB_t 546 (by decide +kernel) (by decide +kernel), TB_t 548 (by decide +kernel) (by decide +kernel), TB_p 20 (by decide +kernel) (by decide +kernel)⟩
theorem kc_X1_passYearByDraws : GC yX1_passYearByDraws mX1_passYearByDraws 0 := ⟨TB_t 545 (by decide +kernel) (by decide +kernel), TB_t 2 (by decide +kernel) (by decide +kernel), by decide +kernel, by decide +kernel, by decide +kernel, by decide⟩
theorem kf_X2_15 : GF RX2 15 2 1 := ⟨RX2, TX2, 4, rfl, iX2, by decide, TB_t 94 (by decide +kernel) (by decide +kernel)⟩
theorem kf_X2_9 : GF RX2 9 2 0 := ⟨RX2, TX2, 4, rfl, iX2, by decide, TB_t 93 (by decide +kernel) (by decide +kernel)⟩
theorem kp_X2_15 : GP RX2 15 2 1 .int := ⟨RX2, TX2, 4, tyX2, rfl, iX2, by decide, TB_t 94 (by decide +kernel) (by decide +kernel), tyX2_ok, nmX2, by decide +kernel, by decide +kernel⟩
theorem kc_X2_takes : GC yX2_takes mX2_takes 2 := ⟨TB_t 190 (by decide +kernel) (by decide +kernel), TB_t 3 (by decide +kernel) (by decide +kernel), by decide +kernel, by decide +kernel, by decide +kernel, by decide⟩
theorem kf_X2_19 : GF RX2 19 2 2 := ⟨RX2, TX2, 4, rfl, iX2, by decide, TB_t 96 (by decide +kernel) (by decide +kernel)⟩
theorem kp_X2_19 : GP RX2 19 2 2 .int := ⟨RX2, TX2, 4, tyX2, rfl, iX2, by decide, TB_t 96 (by decide +kernel) (by decide +kernel), tyX2_ok, nmX2, by decide +kernel, by decide +kernel⟩
theorem kc_X2_skipBlanks : GC yX2_skipBlanks mX2_skipBlanks 0 := ⟨TB_t 203 (by decide +kernel) (by decide +kernel), TB_t 3 (by decide +kernel) (by decide +kernel), by decide +kernel, by decide +kernel, by decide +kernel, by decide⟩
theorem kc_X2_kindName : GC yX2_kindName mX2_kindName 1 := ⟨TB_t 214 (by decide +kernel) (by decide +kernel), TB_t 3 (by decide +kernel) (by decide +kernel), by decide +kernel, by decide +kernel, by decide +kernel, by decide⟩
theorem kc_X2_isLetter : GC yX2_isLetter mX2_isLetter 1 := ⟨TB_t 238 (by decide +kernel) (by decide +kernel), TB_t 3 (by decide +kernel) (by decide +kernel), by decide +kernel, by decide +kernel, by decide +kernel, by decide⟩
theorem kv_X2_25 : GV RX2 25 yX2_skipBlanks mX2_skipBlanks 0 := ⟨kc_X2_skipBlanks, TB_t 200 (by decide +kernel) (by decide +kernel), TB_t 202 (by decide +kernel) (by decide +kernel), TB_p 0 (by decide +kernel) (by decide +kernel)⟩
theorem kc_J0_length_8abf5 : GC yJ0_length_8abf5 mJ0_length_8abf5 0 := ⟨TB_t 228 (by decide +kernel) (by decide +kernel), TB_t 6 (by decide +kernel) (by decide +kernel), by decide +kernel, by decide +kernel, by decide +kernel, by decide⟩
theorem kv_X2_118 : GV RX2 118 yJ0_length_8abf5 mJ0_length_8abf5 0 := ⟨kc_J0_length_8abf5, TB_t 225 (by decide +kernel) (by decide +kernel), TB_t 226 (by decide +kernel) (by decide +kernel), TB_t 227 (by decide +kernel) (by decide +kernel)⟩
theorem kv_X2_122 : GV RX2 122 yX2_isLetter mX2_isLetter 1 := ⟨kc_X2_isLetter, TB_t 235 (by decide +kernel) (by decide +kernel), TB_t 237 (by decide +kernel) (by decide +kernel), TB_p 4 (by decide +kernel) (by decide +kernel)⟩
theorem kc_J0_charAt_5068e : GC yJ0_charAt_5068e mJ0_charAt_5068e 1 := ⟨TB_t 242 (by decide +kernel) (by decide +kernel), TB_t 6 (by decide +kernel) (by decide +kernel), by decide +kernel, by decide +kernel, by decide +kernel, by decide⟩
theorem kv_X2_125 : GV RX2 125 yJ0_charAt_5068e mJ0_charAt_5068e 1 := ⟨kc_J0_charAt_5068e, TB_t 239 (by decide +kernel) (by decide +kernel), TB_t 240 (by decide +kernel) (by decide +kernel), TB_t 241 (by decide +kernel) (by decide +kernel)⟩
theorem kc_X2_isHere : GC yX2_isHere mX2_isHere 1 := ⟨TB_t 224 (by decide +kernel) (by decide +kernel), TB_t 3 (by decide +kernel) (by decide +kernel), by decide +kernel, by decide +kernel, by decide +kernel, by decide⟩
theorem kt_X2_93 : GT RX2 93 yX2_kindName mX2_kindName 1 := ⟨kc_X2_kindName, TB_t 213 (by decide +kernel) (by decide +kernel), Or.inl (TB_t 212 (by decide +kernel) (by decide +kernel))⟩
theorem kv_X2_49 : GV RX2 49 yX2_isHere mX2_isHere 1 := ⟨kc_X2_isHere, TB_t 221 (by decide +kernel) (by decide +kernel), TB_t 223 (by decide +kernel) (by decide +kernel), TB_p 3 (by decide +kernel) (by decide +kernel)⟩
theorem kc_X2_kindHere : GC yX2_kindHere mX2_kindHere 0 := ⟨TB_t 211 (by decide +kernel) (by decide +kernel), TB_t 3 (by decide +kernel) (by decide +kernel), by decide +kernel, by decide +kernel, by decide +kernel, by decide⟩
theorem kc_X2_lawName : GC yX2_lawName mX2_lawName 1 := ⟨TB_t 283 (by decide +kernel) (by decide +kernel), TB_t 3 (by decide +kernel) (by decide +kernel), by decide +kernel, by decide +kernel, by decide +kernel, by decide⟩
theorem kt_X2_76 : GT RX2 76 yX2_lawName mX2_lawName 1 := ⟨kc_X2_lawName, TB_t 282 (by decide +kernel) (by decide +kernel), Or.inl (TB_t 281 (by decide +kernel) (by decide +kernel))⟩
theorem kc_X2_lawHere : GC yX2_lawHere mX2_lawHere 0 := ⟨TB_t 280 (by decide +kernel) (by decide +kernel), TB_t 3 (by decide +kernel) (by decide +kernel), by decide +kernel, by decide +kernel, by decide +kernel, by decide⟩
theorem kf_X2_22 : GF RX2 22 2 3 := ⟨RX2, TX2, 4, rfl, iX2, by decide, TB_t 97 (by decide +kernel) (by decide +kernel)⟩
theorem kp_X2_22 : GP RX2 22 2 3 .int := ⟨RX2, TX2, 4, tyX2, rfl, iX2, by decide, TB_t 97 (by decide +kernel) (by decide +kernel), tyX2_ok, nmX2, by decide +kernel, by decide +kernel⟩
theorem kc_X2_refuse : GC yX2_refuse mX2_refuse 1 := ⟨TB_t 295 (by decide +kernel) (by decide +kernel), TB_t 3 (by decide +kernel) (by decide +kernel), by decide +kernel, by decide +kernel, by decide +kernel, by decide⟩
theorem kv_X2_86 : GV RX2 86 yX2_refuse mX2_refuse 1 := ⟨kc_X2_refuse, TB_t 292 (by decide +kernel) (by decide +kernel), TB_t 294 (by decide +kernel) (by decide +kernel), TB_p 7 (by decide +kernel) (by decide +kernel)⟩
theorem kc_X2_readName : GC yX2_readName mX2_readName 1 := ⟨TB_t 299 (by decide +kernel) (by decide +kernel), TB_t 3 (by decide +kernel) (by decide +kernel), by decide +kernel, by decide +kernel, by decide +kernel, by decide⟩
theorem kc_X2_isDigit : GC yX2_isDigit mX2_isDigit 1 := ⟨TB_t 308 (by decide +kernel) (by decide +kernel), TB_t 3 (by decide +kernel) (by decide +kernel), by decide +kernel, by decide +kernel, by decide +kernel, by decide⟩
theorem kv_X2_108 : GV RX2 108 yX2_isDigit mX2_isDigit 1 := ⟨kc_X2_isDigit, TB_t 305 (by decide +kernel) (by decide +kernel), TB_t 307 (by decide +kernel) (by decide +kernel), TB_p 10 (by decide +kernel) (by decide +kernel)⟩
theorem kt_X2_112 : GT RX2 112 yJ9_min_7cf53 mJ9_min_7cf53 2 := ⟨kc_J9_min_7cf53, TB_t 310 (by decide +kernel) (by decide +kernel), Or.inl (TB_t 309 (by decide +kernel) (by decide +kernel))⟩
theorem kc_X2_readNumber : GC yX2_readNumber mX2_readNumber 1 := ⟨TB_t 304 (by decide +kernel) (by decide +kernel), TB_t 3 (by decide +kernel) (by decide +kernel), by decide +kernel, by decide +kernel, by decide +kernel, by decide⟩
theorem kf_X2_90 : GF RX2 90 1 6 := ⟨RX1, TX1, 12, rfl, iX1, by decide, TB_t 50 (by decide +kernel) (by decide +kernel)⟩
theorem kv_X2_53 : GV RX2 53 yX2_readName mX2_readName 1 := ⟨kc_X2_readName, TB_t 296 (by decide +kernel) (by decide +kernel), TB_t 298 (by decide +kernel) (by decide +kernel), TB_p 8 (by decide +kernel) (by decide +kernel)⟩
theorem kv_X2_60 : GV RX2 60 yX2_readNumber mX2_readNumber 1 := ⟨kc_X2_readNumber, TB_t 301 (by decide +kernel) (by decide +kernel), TB_t 303 (by decide +kernel) (by decide +kernel), TB_p 9 (by decide +kernel) (by decide +kernel)⟩
theorem kv_X2_102 : GV RX2 102 yX1_comes mX1_comes 4 := ⟨kc_X1_comes, TB_t 314 (by decide +kernel) (by decide +kernel), TB_t 315 (by decide +kernel) (by decide +kernel), TB_t 316 (by decide +kernel) (by decide +kernel)⟩
theorem kc_X2_readPerson : GC yX2_readPerson mX2_readPerson 2 := ⟨TB_t 291 (by decide +kernel) (by decide +kernel), TB_t 3 (by decide +kernel) (by decide +kernel), by decide +kernel, by decide +kernel, by decide +kernel, by decide⟩
theorem kc_X2_readCell : GC yX2_readCell mX2_readCell 0 := ⟨TB_t 322 (by decide +kernel) (by decide +kernel), TB_t 3 (by decide +kernel) (by decide +kernel), by decide +kernel, by decide +kernel, by decide +kernel, by decide⟩
theorem kv_X2_36 : GV RX2 36 yX2_kindHere mX2_kindHere 0 := ⟨kc_X2_kindHere, TB_t 208 (by decide +kernel) (by decide +kernel), TB_t 210 (by decide +kernel) (by decide +kernel), TB_p 2 (by decide +kernel) (by decide +kernel)⟩
theorem kv_X2_40 : GV RX2 40 yX2_lawHere mX2_lawHere 0 := ⟨kc_X2_lawHere, TB_t 277 (by decide +kernel) (by decide +kernel), TB_t 279 (by decide +kernel) (by decide +kernel), TB_p 5 (by decide +kernel) (by decide +kernel)⟩
theorem kf_X2_80 : GF RX2 80 1 0 := ⟨RX1, TX1, 12, rfl, iX1, by decide, TB_t 36 (by decide +kernel) (by decide +kernel)⟩
theorem ks_X2_83 : GS RX2 83 1 := ⟨by decide, Or.inr ⟨"SpringOaths", List.mem_of_getElem? (i := 1) (by decide +kernel)⟩⟩
theorem kv_X2_57 : GV RX2 57 yX2_readCell mX2_readCell 0 := ⟨kc_X2_readCell, TB_t 319 (by decide +kernel) (by decide +kernel), TB_t 321 (by decide +kernel) (by decide +kernel), TB_p 11 (by decide +kernel) (by decide +kernel)⟩
theorem kf_X2_72 : GF RX2 72 1 4 := ⟨RX1, TX1, 12, rfl, iX1, by decide, TB_t 44 (by decide +kernel) (by decide +kernel)⟩
theorem kv_X2_64 : GV RX2 64 yX1_raise mX1_raise 2 := ⟨kc_X1_raise, TB_t 324 (by decide +kernel) (by decide +kernel), TB_t 325 (by decide +kernel) (by decide +kernel), TB_t 326 (by decide +kernel) (by decide +kernel)⟩
theorem kv_X2_43 : GV RX2 43 yX2_readPerson mX2_readPerson 2 := ⟨kc_X2_readPerson, TB_t 288 (by decide +kernel) (by decide +kernel), TB_t 290 (by decide +kernel) (by decide +kernel), TB_p 6 (by decide +kernel) (by decide +kernel)⟩
theorem kc_X2_readSentence : GC yX2_readSentence mX2_readSentence 1 := ⟨TB_t 207 (by decide +kernel) (by decide +kernel), TB_t 3 (by decide +kernel) (by decide +kernel), by decide +kernel, by decide +kernel, by decide +kernel, by decide⟩
theorem kc_X2_readSign : GC yX2_readSign mX2_readSign 1 := ⟨TB_t 342 (by decide +kernel) (by decide +kernel), TB_t 3 (by decide +kernel) (by decide +kernel), by decide +kernel, by decide +kernel, by decide +kernel, by decide⟩
theorem kv_X2_28 : GV RX2 28 yX2_readSentence mX2_readSentence 1 := ⟨kc_X2_readSentence, TB_t 204 (by decide +kernel) (by decide +kernel), TB_t 206 (by decide +kernel) (by decide +kernel), TB_p 1 (by decide +kernel) (by decide +kernel)⟩
theorem kv_X2_32 : GV RX2 32 yX2_readSign mX2_readSign 1 := ⟨kc_X2_readSign, TB_t 339 (by decide +kernel) (by decide +kernel), TB_t 341 (by decide +kernel) (by decide +kernel), TB_p 14 (by decide +kernel) (by decide +kernel)⟩
theorem kc_X2_readInto : GC yX2_readInto mX2_readInto 1 := ⟨TB_t 199 (by decide +kernel) (by decide +kernel), TB_t 3 (by decide +kernel) (by decide +kernel), by decide +kernel, by decide +kernel, by decide +kernel, by decide⟩
theorem kf_X3_25 : GF RX3 25 3 4 := ⟨RX3, TX3, 14, rfl, iX3, by decide, TB_t 144 (by decide +kernel) (by decide +kernel)⟩
theorem kv_X3_62 : GV RX3 62 yX2_takes mX2_takes 2 := ⟨kc_X2_takes, TB_t 187 (by decide +kernel) (by decide +kernel), TB_t 188 (by decide +kernel) (by decide +kernel), TB_t 189 (by decide +kernel) (by decide +kernel)⟩
theorem kf_X3_66 : GF RX3 66 2 1 := ⟨RX2, TX2, 4, rfl, iX2, by decide, TB_t 95 (by decide +kernel) (by decide +kernel)⟩
theorem kc_X3_feed : GC yX3_feed mX3_feed 2 := ⟨TB_t 186 (by decide +kernel) (by decide +kernel), TB_t 1 (by decide +kernel) (by decide +kernel), by decide +kernel, by decide +kernel, by decide +kernel, by decide⟩
theorem kf_X3_16 : GF RX3 16 3 1 := ⟨RX3, TX3, 14, rfl, iX3, by decide, TB_t 141 (by decide +kernel) (by decide +kernel)⟩
theorem kv_X3_70 : GV RX3 70 yX1_clear mX1_clear 0 := ⟨kc_X1_clear, TB_t 195 (by decide +kernel) (by decide +kernel), TB_t 29 (by decide +kernel) (by decide +kernel), TB_t 30 (by decide +kernel) (by decide +kernel)⟩
theorem kv_X3_73 : GV RX3 73 yX2_readInto mX2_readInto 1 := ⟨kc_X2_readInto, TB_t 196 (by decide +kernel) (by decide +kernel), TB_t 197 (by decide +kernel) (by decide +kernel), TB_t 198 (by decide +kernel) (by decide +kernel)⟩
theorem kp_X3_66 : GP RX3 66 2 1 .int := ⟨RX2, TX2, 4, tyX2, rfl, iX2, by decide, TB_t 95 (by decide +kernel) (by decide +kernel), tyX2_ok, nmX2, by decide +kernel, by decide +kernel⟩
theorem kf_X3_10 : GF RX3 10 3 0 := ⟨RX3, TX3, 14, rfl, iX3, by decide, TB_t 140 (by decide +kernel) (by decide +kernel)⟩
theorem kf_X3_77 : GF RX3 77 1 2 := ⟨RX1, TX1, 12, rfl, iX1, by decide, TB_t 40 (by decide +kernel) (by decide +kernel)⟩
theorem kp_X3_77 : GP RX3 77 1 2 .int := ⟨RX1, TX1, 12, tyX1, rfl, iX1, by decide, TB_t 40 (by decide +kernel) (by decide +kernel), tyX1_ok, nmX1, by decide +kernel, by decide +kernel⟩
theorem kv_X3_80 : GV RX3 80 yX1_become mX1_become 1 := ⟨kc_X1_become, TB_t 343 (by decide +kernel) (by decide +kernel), TB_t 344 (by decide +kernel) (by decide +kernel), TB_t 345 (by decide +kernel) (by decide +kernel)⟩
theorem kp_X3_84 : GP RX3 84 3 6 .int := ⟨RX3, TX3, 14, tyX3, rfl, iX3, by decide, TB_t 146 (by decide +kernel) (by decide +kernel), tyX3_ok, nmX3, by decide +kernel, by decide +kernel⟩
theorem kf_X3_87 : GF RX3 87 1 6 := ⟨RX1, TX1, 12, rfl, iX1, by decide, TB_t 49 (by decide +kernel) (by decide +kernel)⟩
theorem kc_X3_moor : GC yX3_moor mX3_moor 0 := ⟨TB_t 194 (by decide +kernel) (by decide +kernel), TB_t 1 (by decide +kernel) (by decide +kernel), by decide +kernel, by decide +kernel, by decide +kernel, by decide⟩
theorem kc_X3_isLaw : GC yX3_isLaw mX3_isLaw 1 := ⟨TB_t 356 (by decide +kernel) (by decide +kernel), TB_t 1 (by decide +kernel) (by decide +kernel), by decide +kernel, by decide +kernel, by decide +kernel, by decide⟩
theorem kc_X3_isWithin : GC yX3_isWithin mX3_isWithin 2 := ⟨TB_t 360 (by decide +kernel) (by decide +kernel), TB_t 1 (by decide +kernel) (by decide +kernel), by decide +kernel, by decide +kernel, by decide +kernel, by decide⟩
theorem kt_X3_90 : GT RX3 90 yX3_isLaw mX3_isLaw 1 := ⟨kc_X3_isLaw, TB_t 355 (by decide +kernel) (by decide +kernel), Or.inl (TB_t 354 (by decide +kernel) (by decide +kernel))⟩
theorem ks_X3_94 : GS RX3 94 1 := ⟨by decide, Or.inl (TB_t 357 (by decide +kernel) (by decide +kernel))⟩
theorem kt_X3_97 : GT RX3 97 yX3_isWithin mX3_isWithin 2 := ⟨kc_X3_isWithin, TB_t 359 (by decide +kernel) (by decide +kernel), Or.inl (TB_t 358 (by decide +kernel) (by decide +kernel))⟩
theorem kf_X3_101 : GF RX3 101 1 0 := ⟨RX1, TX1, 12, rfl, iX1, by decide, TB_t 35 (by decide +kernel) (by decide +kernel)⟩
theorem kc_X3_set : GC yX3_set mX3_set 2 := ⟨TB_t 353 (by decide +kernel) (by decide +kernel), TB_t 1 (by decide +kernel) (by decide +kernel), by decide +kernel, by decide +kernel, by decide +kernel, by decide⟩
theorem kc_X3_lawOf : GC yX3_lawOf mX3_lawOf 1 := ⟨TB_t 364 (by decide +kernel) (by decide +kernel), TB_t 1 (by decide +kernel) (by decide +kernel), by decide +kernel, by decide +kernel, by decide +kernel, by decide⟩
theorem kc_X3_isKind : GC yX3_isKind mX3_isKind 1 := ⟨TB_t 371 (by decide +kernel) (by decide +kernel), TB_t 1 (by decide +kernel) (by decide +kernel), by decide +kernel, by decide +kernel, by decide +kernel, by decide⟩
theorem kc_X3_isCell : GC yX3_isCell mX3_isCell 1 := ⟨TB_t 374 (by decide +kernel) (by decide +kernel), TB_t 1 (by decide +kernel) (by decide +kernel), by decide +kernel, by decide +kernel, by decide +kernel, by decide⟩
theorem kt_X3_104 : GT RX3 104 yX3_isKind mX3_isKind 1 := ⟨kc_X3_isKind, TB_t 370 (by decide +kernel) (by decide +kernel), Or.inl (TB_t 369 (by decide +kernel) (by decide +kernel))⟩
theorem kt_X3_107 : GT RX3 107 yX3_isCell mX3_isCell 1 := ⟨kc_X3_isCell, TB_t 373 (by decide +kernel) (by decide +kernel), Or.inl (TB_t 372 (by decide +kernel) (by decide +kernel))⟩
theorem kv_X3_110 : GV RX3 110 yX1_comes mX1_comes 4 := ⟨kc_X1_comes, TB_t 375 (by decide +kernel) (by decide +kernel), TB_t 315 (by decide +kernel) (by decide +kernel), TB_t 316 (by decide +kernel) (by decide +kernel)⟩
theorem kc_X3_person : GC yX3_person mX3_person 4 := ⟨TB_t 368 (by decide +kernel) (by decide +kernel), TB_t 1 (by decide +kernel) (by decide +kernel), by decide +kernel, by decide +kernel, by decide +kernel, by decide⟩
theorem kc_X3_isPerson : GC yX3_isPerson mX3_isPerson 1 := ⟨TB_t 383 (by decide +kernel) (by decide +kernel), TB_t 1 (by decide +kernel) (by decide +kernel), by decide +kernel, by decide +kernel, by decide +kernel, by decide⟩
theorem kv_X3_114 : GV RX3 114 yX3_isPerson mX3_isPerson 1 := ⟨kc_X3_isPerson, TB_t 380 (by decide +kernel) (by decide +kernel), TB_t 382 (by decide +kernel) (by decide +kernel), TB_p 15 (by decide +kernel) (by decide +kernel)⟩
theorem kf_X3_117 : GF RX3 117 1 7 := ⟨RX1, TX1, 12, rfl, iX1, by decide, TB_t 52 (by decide +kernel) (by decide +kernel)⟩
theorem kf_X3_120 : GF RX3 120 1 8 := ⟨RX1, TX1, 12, rfl, iX1, by decide, TB_t 54 (by decide +kernel) (by decide +kernel)⟩
theorem kf_X3_123 : GF RX3 123 1 9 := ⟨RX1, TX1, 12, rfl, iX1, by decide, TB_t 56 (by decide +kernel) (by decide +kernel)⟩
theorem kf_X3_126 : GF RX3 126 1 10 := ⟨RX1, TX1, 12, rfl, iX1, by decide, TB_t 58 (by decide +kernel) (by decide +kernel)⟩
theorem kv_X3_129 : GV RX3 129 yX1_welling mX1_welling 1 := ⟨kc_X1_welling, TB_t 384 (by decide +kernel) (by decide +kernel), TB_t 385 (by decide +kernel) (by decide +kernel), TB_t 386 (by decide +kernel) (by decide +kernel)⟩
theorem kv_X3_133 : GV RX3 133 yX1_winning mX1_winning 1 := ⟨kc_X1_winning, TB_t 396 (by decide +kernel) (by decide +kernel), TB_t 397 (by decide +kernel) (by decide +kernel), TB_t 398 (by decide +kernel) (by decide +kernel)⟩
theorem kv_X3_136 : GV RX3 136 yX1_isLost mX1_isLost 1 := ⟨kc_X1_isLost, TB_t 400 (by decide +kernel) (by decide +kernel), TB_t 393 (by decide +kernel) (by decide +kernel), TB_t 394 (by decide +kernel) (by decide +kernel)⟩
theorem kv_X3_139 : GV RX3 139 yX1_opponents mX1_opponents 1 := ⟨kc_X1_opponents, TB_t 401 (by decide +kernel) (by decide +kernel), TB_t 402 (by decide +kernel) (by decide +kernel), TB_t 403 (by decide +kernel) (by decide +kernel)⟩
theorem kc_X3_of : GC yX3_of mX3_of 2 := ⟨TB_t 379 (by decide +kernel) (by decide +kernel), TB_t 1 (by decide +kernel) (by decide +kernel), by decide +kernel, by decide +kernel, by decide +kernel, by decide⟩
theorem kv_X3_142 : GV RX3 142 yX1_losing mX1_losing 1 := ⟨kc_X1_losing, TB_t 416 (by decide +kernel) (by decide +kernel), TB_t 417 (by decide +kernel) (by decide +kernel), TB_t 418 (by decide +kernel) (by decide +kernel)⟩
theorem kc_X3_loses : GC yX3_loses mX3_loses 1 := ⟨TB_t 415 (by decide +kernel) (by decide +kernel), TB_t 1 (by decide +kernel) (by decide +kernel), by decide +kernel, by decide +kernel, by decide +kernel, by decide⟩
theorem kc_X3_mind : GC yX3_mind mX3_mind 3 := ⟨TB_t 423 (by decide +kernel) (by decide +kernel), TB_t 1 (by decide +kernel) (by decide +kernel), by decide +kernel, by decide +kernel, by decide +kernel, by decide⟩
theorem kc_X3_sure : GC yX3_sure mX3_sure 2 := ⟨TB_t 427 (by decide +kernel) (by decide +kernel), TB_t 1 (by decide +kernel) (by decide +kernel), by decide +kernel, by decide +kernel, by decide +kernel, by decide⟩
theorem kc_X3_bring : GC yX3_bring mX3_bring 2 := ⟨TB_t 431 (by decide +kernel) (by decide +kernel), TB_t 1 (by decide +kernel) (by decide +kernel), by decide +kernel, by decide +kernel, by decide +kernel, by decide⟩
theorem kf_X3_145 : GF RX3 145 1 4 := ⟨RX1, TX1, 12, rfl, iX1, by decide, TB_t 45 (by decide +kernel) (by decide +kernel)⟩
theorem kf_X3_148 : GF RX3 148 1 3 := ⟨RX1, TX1, 12, rfl, iX1, by decide, TB_t 42 (by decide +kernel) (by decide +kernel)⟩
theorem kv_X3_151 : GV RX3 151 yX1_peopleAt mX1_peopleAt 1 := ⟨kc_X1_peopleAt, TB_t 436 (by decide +kernel) (by decide +kernel), TB_t 437 (by decide +kernel) (by decide +kernel), TB_t 438 (by decide +kernel) (by decide +kernel)⟩
theorem kv_X3_154 : GV RX3 154 yX1_wellingAt mX1_wellingAt 1 := ⟨kc_X1_wellingAt, TB_t 440 (by decide +kernel) (by decide +kernel), TB_t 441 (by decide +kernel) (by decide +kernel), TB_t 442 (by decide +kernel) (by decide +kernel)⟩
theorem kv_X3_157 : GV RX3 157 yX1_disputesAt mX1_disputesAt 1 := ⟨kc_X1_disputesAt, TB_t 445 (by decide +kernel) (by decide +kernel), TB_t 446 (by decide +kernel) (by decide +kernel), TB_t 447 (by decide +kernel) (by decide +kernel)⟩
theorem kc_X3_cell : GC yX3_cell mX3_cell 2 := ⟨TB_t 435 (by decide +kernel) (by decide +kernel), TB_t 1 (by decide +kernel) (by decide +kernel), by decide +kernel, by decide +kernel, by decide +kernel, by decide⟩
theorem kf_X3_160 : GF RX3 160 1 5 := ⟨RX1, TX1, 12, rfl, iX1, by decide, TB_t 47 (by decide +kernel) (by decide +kernel)⟩
theorem kc_X3_lowest : GC yX3_lowest mX3_lowest 1 := ⟨TB_t 459 (by decide +kernel) (by decide +kernel), TB_t 1 (by decide +kernel) (by decide +kernel), by decide +kernel, by decide +kernel, by decide +kernel, by decide⟩
theorem kc_X3_water : GC yX3_water mX3_water 2 := ⟨TB_t 463 (by decide +kernel) (by decide +kernel), TB_t 1 (by decide +kernel) (by decide +kernel), by decide +kernel, by decide +kernel, by decide +kernel, by decide⟩
theorem kv_X3_163 : GV RX3 163 yX1_raise mX1_raise 2 := ⟨kc_X1_raise, TB_t 468 (by decide +kernel) (by decide +kernel), TB_t 325 (by decide +kernel) (by decide +kernel), TB_t 326 (by decide +kernel) (by decide +kernel)⟩
theorem kc_X3_height : GC yX3_height mX3_height 2 := ⟨TB_t 467 (by decide +kernel) (by decide +kernel), TB_t 1 (by decide +kernel) (by decide +kernel), by decide +kernel, by decide +kernel, by decide +kernel, by decide⟩
theorem kv_X3_167 : GV RX3 167 yX1_wetCells mX1_wetCells 0 := ⟨kc_X1_wetCells, TB_t 473 (by decide +kernel) (by decide +kernel), TB_t 474 (by decide +kernel) (by decide +kernel), TB_t 475 (by decide +kernel) (by decide +kernel)⟩
theorem kv_X3_171 : GV RX3 171 yX1_trodCells mX1_trodCells 0 := ⟨kc_X1_trodCells, TB_t 481 (by decide +kernel) (by decide +kernel), TB_t 482 (by decide +kernel) (by decide +kernel), TB_t 483 (by decide +kernel) (by decide +kernel)⟩
theorem kv_X3_174 : GV RX3 174 yX1_hollows mX1_hollows 0 := ⟨kc_X1_hollows, TB_t 485 (by decide +kernel) (by decide +kernel), TB_t 486 (by decide +kernel) (by decide +kernel), TB_t 487 (by decide +kernel) (by decide +kernel)⟩
theorem kcL_X3_177 : Cond.constantLong RX3 177 (-1 : Int64) ∈ TB := TB_t 489 (by decide +kernel) (by decide +kernel)
theorem kc_X3_wets : GC yX3_wets mX3_wets 1 := ⟨TB_t 472 (by decide +kernel) (by decide +kernel), TB_t 1 (by decide +kernel) (by decide +kernel), by decide +kernel, by decide +kernel, by decide +kernel, by decide⟩
theorem kcL_J13_314 : Cond.constantLong RJ13 314 (6148914691236517205 : Int64) ∈ TB := TB_t 531 (by decide +kernel) (by decide +kernel)
theorem kcL_J13_316 : Cond.constantLong RJ13 316 (3689348814741910323 : Int64) ∈ TB := TB_t 532 (by decide +kernel) (by decide +kernel)
theorem kcL_J13_318 : Cond.constantLong RJ13 318 (1085102592571150095 : Int64) ∈ TB := TB_t 533 (by decide +kernel) (by decide +kernel)
theorem kc_J13_bitCount_95d88 : GC yJ13_bitCount_95d88 mJ13_bitCount_95d88 1 := ⟨TB_t 530 (by decide +kernel) (by decide +kernel), TB_t 13 (by decide +kernel) (by decide +kernel), by decide +kernel, by decide +kernel, by decide +kernel, by decide⟩
theorem kv_X3_179 : GV RX3 179 yX1_passYears mX1_passYears 1 := ⟨kc_X1_passYears, TB_t 494 (by decide +kernel) (by decide +kernel), TB_t 495 (by decide +kernel) (by decide +kernel), TB_t 496 (by decide +kernel) (by decide +kernel)⟩
theorem kt_X3_183 : GT RX3 183 yJ13_bitCount_95d88 mJ13_bitCount_95d88 1 := ⟨kc_J13_bitCount_95d88, TB_t 529 (by decide +kernel) (by decide +kernel), Or.inl (TB_t 528 (by decide +kernel) (by decide +kernel))⟩
theorem kc_X3_years : GC yX3_years mX3_years 1 := ⟨TB_t 493 (by decide +kernel) (by decide +kernel), TB_t 1 (by decide +kernel) (by decide +kernel), by decide +kernel, by decide +kernel, by decide +kernel, by decide⟩
theorem kc_X3_seed : GC yX3_seed mX3_seed 1 := ⟨TB_t 537 (by decide +kernel) (by decide +kernel), TB_t 1 (by decide +kernel) (by decide +kernel), by decide +kernel, by decide +kernel, by decide +kernel, by decide⟩
theorem kv_X3_189 : GV RX3 189 yX1_passYearByDraws mX1_passYearByDraws 0 := ⟨kc_X1_passYearByDraws, TB_t 542 (by decide +kernel) (by decide +kernel), TB_t 543 (by decide +kernel) (by decide +kernel), TB_t 544 (by decide +kernel) (by decide +kernel)⟩
theorem kv_X3_192 : GV RX3 192 yX1_lostPeople mX1_lostPeople 0 := ⟨kc_X1_lostPeople, TB_t 551 (by decide +kernel) (by decide +kernel), TB_t 552 (by decide +kernel) (by decide +kernel), TB_t 553 (by decide +kernel) (by decide +kernel)⟩
theorem kt_X3_196 : GT RX3 196 yJ6_bitCount_0f7a4 mJ6_bitCount_0f7a4 1 := ⟨kc_J6_bitCount_0f7a4, TB_t 451 (by decide +kernel) (by decide +kernel), Or.inl (TB_t 555 (by decide +kernel) (by decide +kernel))⟩
theorem kc_X3_year : GC yX3_year mX3_year 0 := ⟨TB_t 541 (by decide +kernel) (by decide +kernel), TB_t 1 (by decide +kernel) (by decide +kernel), by decide +kernel, by decide +kernel, by decide +kernel, by decide⟩
theorem kc_X3_revel : GC yX3_revel mX3_revel 1 := ⟨TB_t 559 (by decide +kernel) (by decide +kernel), TB_t 1 (by decide +kernel) (by decide +kernel), by decide +kernel, by decide +kernel, by decide +kernel, by decide⟩
theorem kf_X3_200 : GF RX3 200 1 1 := ⟨RX1, TX1, 12, rfl, iX1, by decide, TB_t 38 (by decide +kernel) (by decide +kernel)⟩
theorem kv_X3_203 : GV RX3 203 yX1_allWater mX1_allWater 0 := ⟨kc_X1_allWater, TB_t 564 (by decide +kernel) (by decide +kernel), TB_t 565 (by decide +kernel) (by decide +kernel), TB_t 566 (by decide +kernel) (by decide +kernel)⟩
theorem kv_X3_206 : GV RX3 206 yX1_allSure mX1_allSure 0 := ⟨kc_X1_allSure, TB_t 568 (by decide +kernel) (by decide +kernel), TB_t 569 (by decide +kernel) (by decide +kernel), TB_t 570 (by decide +kernel) (by decide +kernel)⟩
theorem kv_X3_209 : GV RX3 209 yX1_disputes mX1_disputes 0 := ⟨kc_X1_disputes, TB_t 572 (by decide +kernel) (by decide +kernel), TB_t 573 (by decide +kernel) (by decide +kernel), TB_t 574 (by decide +kernel) (by decide +kernel)⟩
theorem kc_X3_state : GC yX3_state mX3_state 1 := ⟨TB_t 563 (by decide +kernel) (by decide +kernel), TB_t 1 (by decide +kernel) (by decide +kernel), by decide +kernel, by decide +kernel, by decide +kernel, by decide⟩
theorem kc_X3_level : GC yX3_level mX3_level 2 := ⟨TB_t 579 (by decide +kernel) (by decide +kernel), TB_t 1 (by decide +kernel) (by decide +kernel), by decide +kernel, by decide +kernel, by decide +kernel, by decide⟩
theorem kv_X3_212 : GV RX3 212 yX1_isWet mX1_isWet 1 := ⟨kc_X1_isWet, TB_t 584 (by decide +kernel) (by decide +kernel), TB_t 478 (by decide +kernel) (by decide +kernel), TB_t 479 (by decide +kernel) (by decide +kernel)⟩
theorem kv_X3_215 : GV RX3 215 yX1_passYear mX1_passYear 0 := ⟨kc_X1_passYear, TB_t 585 (by decide +kernel) (by decide +kernel), TB_t 499 (by decide +kernel) (by decide +kernel), TB_t 500 (by decide +kernel) (by decide +kernel)⟩
theorem kc_X3_damp : GC yX3_damp mX3_damp 1 := ⟨TB_t 583 (by decide +kernel) (by decide +kernel), TB_t 1 (by decide +kernel) (by decide +kernel), by decide +kernel, by decide +kernel, by decide +kernel, by decide⟩
theorem kc_X3_loss : GC yX3_loss mX3_loss 1 := ⟨TB_t 589 (by decide +kernel) (by decide +kernel), TB_t 1 (by decide +kernel) (by decide +kernel), by decide +kernel, by decide +kernel, by decide +kernel, by decide⟩
theorem kc_X3_drowned : GC yX3_drowned mX3_drowned 0 := ⟨TB_t 593 (by decide +kernel) (by decide +kernel), TB_t 1 (by decide +kernel) (by decide +kernel), by decide +kernel, by decide +kernel, by decide +kernel, by decide⟩
theorem kc_X3_isShortTime : GC yX3_isShortTime mX3_isShortTime 1 := ⟨TB_t 600 (by decide +kernel) (by decide +kernel), TB_t 1 (by decide +kernel) (by decide +kernel), by decide +kernel, by decide +kernel, by decide +kernel, by decide⟩
theorem kt_X3_218 : GT RX3 218 yX3_isShortTime mX3_isShortTime 1 := ⟨kc_X3_isShortTime, TB_t 599 (by decide +kernel) (by decide +kernel), Or.inl (TB_t 598 (by decide +kernel) (by decide +kernel))⟩
theorem kc_X3_whereFor : GC yX3_whereFor mX3_whereFor 3 := ⟨TB_t 597 (by decide +kernel) (by decide +kernel), TB_t 1 (by decide +kernel) (by decide +kernel), by decide +kernel, by decide +kernel, by decide +kernel, by decide⟩
theorem kc_X3_kindFor : GC yX3_kindFor mX3_kindFor 3 := ⟨TB_t 604 (by decide +kernel) (by decide +kernel), TB_t 1 (by decide +kernel) (by decide +kernel), by decide +kernel, by decide +kernel, by decide +kernel, by decide⟩
theorem kc_X3_annoyed : GC yX3_annoyed mX3_annoyed 3 := ⟨TB_t 608 (by decide +kernel) (by decide +kernel), TB_t 1 (by decide +kernel) (by decide +kernel), by decide +kernel, by decide +kernel, by decide +kernel, by decide⟩
theorem kp_X3_285 : GP RX3 285 1 11 .int := ⟨RX1, TX1, 12, tyX1, rfl, iX1, by decide, TB_t 60 (by decide +kernel) (by decide +kernel), tyX1_ok, nmX1, by decide +kernel, by decide +kernel⟩
theorem kc_X3_levelWithout : GC yX3_levelWithout mX3_levelWithout 3 := ⟨TB_t 616 (by decide +kernel) (by decide +kernel), TB_t 1 (by decide +kernel) (by decide +kernel), by decide +kernel, by decide +kernel, by decide +kernel, by decide⟩
theorem kv_X3_221 : GV RX3 221 yX3_levelWithout mX3_levelWithout 3 := ⟨kc_X3_levelWithout, TB_t 613 (by decide +kernel) (by decide +kernel), TB_t 615 (by decide +kernel) (by decide +kernel), TB_p 21 (by decide +kernel) (by decide +kernel)⟩
theorem kc_X3_needed : GC yX3_needed mX3_needed 2 := ⟨TB_t 612 (by decide +kernel) (by decide +kernel), TB_t 1 (by decide +kernel) (by decide +kernel), by decide +kernel, by decide +kernel, by decide +kernel, by decide⟩
theorem kc_X3_fewest : GC yX3_fewest mX3_fewest 2 := ⟨TB_t 620 (by decide +kernel) (by decide +kernel), TB_t 1 (by decide +kernel) (by decide +kernel), by decide +kernel, by decide +kernel, by decide +kernel, by decide⟩
theorem kc_X3_ends : GC yX3_ends mX3_ends 1 := ⟨TB_t 624 (by decide +kernel) (by decide +kernel), TB_t 1 (by decide +kernel) (by decide +kernel), by decide +kernel, by decide +kernel, by decide +kernel, by decide⟩
theorem kc_X3_isSheet : GC yX3_isSheet mX3_isSheet 1 := ⟨TB_t 631 (by decide +kernel) (by decide +kernel), TB_t 1 (by decide +kernel) (by decide +kernel), by decide +kernel, by decide +kernel, by decide +kernel, by decide⟩
theorem kf_X3_38 : GF RX3 38 3 8 := ⟨RX3, TX3, 14, rfl, iX3, by decide, TB_t 148 (by decide +kernel) (by decide +kernel)⟩
theorem kf_X3_43 : GF RX3 43 3 9 := ⟨RX3, TX3, 14, rfl, iX3, by decide, TB_t 149 (by decide +kernel) (by decide +kernel)⟩
theorem kc_X3_fitsWith : GC yX3_fitsWith mX3_fitsWith 4 := ⟨TB_t 635 (by decide +kernel) (by decide +kernel), TB_t 1 (by decide +kernel) (by decide +kernel), by decide +kernel, by decide +kernel, by decide +kernel, by decide⟩
theorem kt_X3_225 : GT RX3 225 yX3_isSheet mX3_isSheet 1 := ⟨kc_X3_isSheet, TB_t 630 (by decide +kernel) (by decide +kernel), Or.inl (TB_t 629 (by decide +kernel) (by decide +kernel))⟩
theorem kf_X3_34 : GF RX3 34 3 7 := ⟨RX3, TX3, 14, rfl, iX3, by decide, TB_t 147 (by decide +kernel) (by decide +kernel)⟩
theorem kv_X3_228 : GV RX3 228 yX3_fitsWith mX3_fitsWith 4 := ⟨kc_X3_fitsWith, TB_t 632 (by decide +kernel) (by decide +kernel), TB_t 634 (by decide +kernel) (by decide +kernel), TB_p 22 (by decide +kernel) (by decide +kernel)⟩
theorem kc_X3_fits : GC yX3_fits mX3_fits 4 := ⟨TB_t 628 (by decide +kernel) (by decide +kernel), TB_t 1 (by decide +kernel) (by decide +kernel), by decide +kernel, by decide +kernel, by decide +kernel, by decide⟩
theorem kc_X3_partOf : GC yX3_partOf mX3_partOf 3 := ⟨TB_t 643 (by decide +kernel) (by decide +kernel), TB_t 1 (by decide +kernel) (by decide +kernel), by decide +kernel, by decide +kernel, by decide +kernel, by decide⟩
theorem kcL_X3_232 : Cond.constantLong RX3 232 (100 : Int64) ∈ TB := TB_t 640 (by decide +kernel) (by decide +kernel)
theorem kt_X3_234 : GT RX3 234 yX3_partOf mX3_partOf 3 := ⟨kc_X3_partOf, TB_t 642 (by decide +kernel) (by decide +kernel), Or.inl (TB_t 641 (by decide +kernel) (by decide +kernel))⟩
theorem kc_X3_odds : GC yX3_odds mX3_odds 3 := ⟨TB_t 639 (by decide +kernel) (by decide +kernel), TB_t 1 (by decide +kernel) (by decide +kernel), by decide +kernel, by decide +kernel, by decide +kernel, by decide⟩
theorem kc_X3_hope : GC yX3_hope mX3_hope 2 := ⟨TB_t 647 (by decide +kernel) (by decide +kernel), TB_t 1 (by decide +kernel) (by decide +kernel), by decide +kernel, by decide +kernel, by decide +kernel, by decide⟩
theorem kf_X3_31 : GF RX3 31 3 5 := ⟨RX3, TX3, 14, rfl, iX3, by decide, TB_t 145 (by decide +kernel) (by decide +kernel)⟩
theorem kv_X3_238 : GV RX3 238 yX1_partOfRow mX1_partOfRow 2 := ⟨kc_X1_partOfRow, TB_t 652 (by decide +kernel) (by decide +kernel), TB_t 653 (by decide +kernel) (by decide +kernel), TB_t 654 (by decide +kernel) (by decide +kernel)⟩
theorem kc_X3_prove : GC yX3_prove mX3_prove 2 := ⟨TB_t 651 (by decide +kernel) (by decide +kernel), TB_t 1 (by decide +kernel) (by decide +kernel), by decide +kernel, by decide +kernel, by decide +kernel, by decide⟩
theorem kf_X3_84 : GF RX3 84 3 6 := ⟨RX3, TX3, 14, rfl, iX3, by decide, TB_t 146 (by decide +kernel) (by decide +kernel)⟩
theorem kc_X3_isRowPart : GC yX3_isRowPart mX3_isRowPart 2 := ⟨TB_t 664 (by decide +kernel) (by decide +kernel), TB_t 1 (by decide +kernel) (by decide +kernel), by decide +kernel, by decide +kernel, by decide +kernel, by decide⟩
theorem kv_X3_242 : GV RX3 242 yX3_isRowPart mX3_isRowPart 2 := ⟨kc_X3_isRowPart, TB_t 661 (by decide +kernel) (by decide +kernel), TB_t 663 (by decide +kernel) (by decide +kernel), TB_p 23 (by decide +kernel) (by decide +kernel)⟩
theorem kc_X3_row : GC yX3_row mX3_row 2 := ⟨TB_t 660 (by decide +kernel) (by decide +kernel), TB_t 1 (by decide +kernel) (by decide +kernel), by decide +kernel, by decide +kernel, by decide +kernel, by decide⟩
theorem kc_X3_alterRow : GC yX3_alterRow mX3_alterRow 3 := ⟨TB_t 668 (by decide +kernel) (by decide +kernel), TB_t 1 (by decide +kernel) (by decide +kernel), by decide +kernel, by decide +kernel, by decide +kernel, by decide⟩
theorem kc_X3_judge : GC yX3_judge mX3_judge 1 := ⟨TB_t 672 (by decide +kernel) (by decide +kernel), TB_t 1 (by decide +kernel) (by decide +kernel), by decide +kernel, by decide +kernel, by decide +kernel, by decide⟩
theorem kt_X3_245 : GT RX3 245 yX3_heldSure mX3_heldSure 1 := ⟨kc_X3_heldSure, TB_t 522 (by decide +kernel) (by decide +kernel), Or.inl (TB_t 677 (by decide +kernel) (by decide +kernel))⟩
theorem kc_X3_minds : GC yX3_minds mX3_minds 4 := ⟨TB_t 676 (by decide +kernel) (by decide +kernel), TB_t 1 (by decide +kernel) (by decide +kernel), by decide +kernel, by decide +kernel, by decide +kernel, by decide⟩
theorem kc_X3_sheet : GC yX3_sheet mX3_sheet 3 := ⟨TB_t 681 (by decide +kernel) (by decide +kernel), TB_t 1 (by decide +kernel) (by decide +kernel), by decide +kernel, by decide +kernel, by decide +kernel, by decide⟩
theorem kc_X3_narrowed : GC yX3_narrowed mX3_narrowed 2 := ⟨TB_t 688 (by decide +kernel) (by decide +kernel), TB_t 1 (by decide +kernel) (by decide +kernel), by decide +kernel, by decide +kernel, by decide +kernel, by decide⟩
theorem kt_X3_248 : GT RX3 248 yX3_narrowed mX3_narrowed 2 := ⟨kc_X3_narrowed, TB_t 687 (by decide +kernel) (by decide +kernel), Or.inl (TB_t 686 (by decide +kernel) (by decide +kernel))⟩
theorem kc_X3_put : GC yX3_put mX3_put 3 := ⟨TB_t 685 (by decide +kernel) (by decide +kernel), TB_t 1 (by decide +kernel) (by decide +kernel), by decide +kernel, by decide +kernel, by decide +kernel, by decide⟩
theorem kc_X3_isSort : GC yX3_isSort mX3_isSort 1 := ⟨TB_t 695 (by decide +kernel) (by decide +kernel), TB_t 1 (by decide +kernel) (by decide +kernel), by decide +kernel, by decide +kernel, by decide +kernel, by decide⟩
theorem kt_X3_252 : GT RX3 252 yX3_isSort mX3_isSort 1 := ⟨kc_X3_isSort, TB_t 694 (by decide +kernel) (by decide +kernel), Or.inl (TB_t 693 (by decide +kernel) (by decide +kernel))⟩
theorem kc_X3_item : GC yX3_item mX3_item 3 := ⟨TB_t 692 (by decide +kernel) (by decide +kernel), TB_t 1 (by decide +kernel) (by decide +kernel), by decide +kernel, by decide +kernel, by decide +kernel, by decide⟩
theorem kc_X3_isShelf : GC yX3_isShelf mX3_isShelf 1 := ⟨TB_t 702 (by decide +kernel) (by decide +kernel), TB_t 1 (by decide +kernel) (by decide +kernel), by decide +kernel, by decide +kernel, by decide +kernel, by decide⟩
theorem kf_X3_46 : GF RX3 46 3 10 := ⟨RX3, TX3, 14, rfl, iX3, by decide, TB_t 150 (by decide +kernel) (by decide +kernel)⟩
theorem kf_X3_49 : GF RX3 49 3 11 := ⟨RX3, TX3, 14, rfl, iX3, by decide, TB_t 151 (by decide +kernel) (by decide +kernel)⟩
theorem kf_X3_52 : GF RX3 52 3 12 := ⟨RX3, TX3, 14, rfl, iX3, by decide, TB_t 152 (by decide +kernel) (by decide +kernel)⟩
theorem kc_X3_shelve : GC yX3_shelve mX3_shelve 4 := ⟨TB_t 706 (by decide +kernel) (by decide +kernel), TB_t 1 (by decide +kernel) (by decide +kernel), by decide +kernel, by decide +kernel, by decide +kernel, by decide⟩
theorem kt_X3_255 : GT RX3 255 yX3_isShelf mX3_isShelf 1 := ⟨kc_X3_isShelf, TB_t 701 (by decide +kernel) (by decide +kernel), Or.inl (TB_t 700 (by decide +kernel) (by decide +kernel))⟩
theorem kv_X3_258 : GV RX3 258 yX3_shelve mX3_shelve 4 := ⟨kc_X3_shelve, TB_t 703 (by decide +kernel) (by decide +kernel), TB_t 705 (by decide +kernel) (by decide +kernel), TB_p 24 (by decide +kernel) (by decide +kernel)⟩
theorem kc_X3_shelf : GC yX3_shelf mX3_shelf 3 := ⟨TB_t 699 (by decide +kernel) (by decide +kernel), TB_t 1 (by decide +kernel) (by decide +kernel), by decide +kernel, by decide +kernel, by decide +kernel, by decide⟩
theorem kc_X3_holdsRow : GC yX3_holdsRow mX3_holdsRow 1 := ⟨TB_t 714 (by decide +kernel) (by decide +kernel), TB_t 1 (by decide +kernel) (by decide +kernel), by decide +kernel, by decide +kernel, by decide +kernel, by decide⟩
theorem kc_X3_holdsPerson : GC yX3_holdsPerson mX3_holdsPerson 1 := ⟨TB_t 718 (by decide +kernel) (by decide +kernel), TB_t 1 (by decide +kernel) (by decide +kernel), by decide +kernel, by decide +kernel, by decide +kernel, by decide⟩
theorem ks_X3_288 : GS RX3 288 0 := ⟨by decide, Or.inl (TB_t 722 (by decide +kernel) (by decide +kernel))⟩
theorem kc_X3_isUnder : GC yX3_isUnder mX3_isUnder 2 := ⟨TB_t 721 (by decide +kernel) (by decide +kernel), TB_t 1 (by decide +kernel) (by decide +kernel), by decide +kernel, by decide +kernel, by decide +kernel, by decide⟩
theorem kv_X3_261 : GV RX3 261 yX3_holdsRow mX3_holdsRow 1 := ⟨kc_X3_holdsRow, TB_t 711 (by decide +kernel) (by decide +kernel), TB_t 713 (by decide +kernel) (by decide +kernel), TB_p 25 (by decide +kernel) (by decide +kernel)⟩
theorem kv_X3_264 : GV RX3 264 yX3_holdsPerson mX3_holdsPerson 1 := ⟨kc_X3_holdsPerson, TB_t 715 (by decide +kernel) (by decide +kernel), TB_t 717 (by decide +kernel) (by decide +kernel), TB_p 26 (by decide +kernel) (by decide +kernel)⟩
theorem kt_X3_267 : GT RX3 267 yX3_isUnder mX3_isUnder 2 := ⟨kc_X3_isUnder, TB_t 720 (by decide +kernel) (by decide +kernel), Or.inl (TB_t 719 (by decide +kernel) (by decide +kernel))⟩
theorem kc_X3_taken : GC yX3_taken mX3_taken 2 := ⟨TB_t 710 (by decide +kernel) (by decide +kernel), TB_t 1 (by decide +kernel) (by decide +kernel), by decide +kernel, by decide +kernel, by decide +kernel, by decide⟩
theorem kf_X3_58 : GF RX3 58 3 13 := ⟨RX3, TX3, 14, rfl, iX3, by decide, TB_t 153 (by decide +kernel) (by decide +kernel)⟩
theorem kv_X3_270 : GV RX3 270 yX0_forget mX0_forget 0 := ⟨kc_X0_forget, TB_t 728 (by decide +kernel) (by decide +kernel), TB_t 729 (by decide +kernel) (by decide +kernel), TB_t 730 (by decide +kernel) (by decide +kernel)⟩
theorem kv_X3_273 : GV RX3 273 yX0_perform mX0_perform 5 := ⟨kc_X0_perform, TB_t 732 (by decide +kernel) (by decide +kernel), TB_t 733 (by decide +kernel) (by decide +kernel), TB_t 734 (by decide +kernel) (by decide +kernel)⟩
theorem kc_X3_act : GC yX3_act mX3_act 3 := ⟨TB_t 727 (by decide +kernel) (by decide +kernel), TB_t 1 (by decide +kernel) (by decide +kernel), by decide +kernel, by decide +kernel, by decide +kernel, by decide⟩
theorem kf_X3_277 : GF RX3 277 0 1 := ⟨RX0, TX0, 6, rfl, iX0, by decide, TB_t 121 (by decide +kernel) (by decide +kernel)⟩
theorem kf_X3_278 : GF RX3 278 0 0 := ⟨RX0, TX0, 6, rfl, iX0, by decide, TB_t 119 (by decide +kernel) (by decide +kernel)⟩
theorem kc_X3_trace : GC yX3_trace mX3_trace 1 := ⟨TB_t 758 (by decide +kernel) (by decide +kernel), TB_t 1 (by decide +kernel) (by decide +kernel), by decide +kernel, by decide +kernel, by decide +kernel, by decide⟩
theorem kc_X3_many : GC yX3_many mX3_many 1 := ⟨TB_t 762 (by decide +kernel) (by decide +kernel), TB_t 1 (by decide +kernel) (by decide +kernel), by decide +kernel, by decide +kernel, by decide +kernel, by decide⟩
theorem kf_X3_19 : GF RX3 19 3 2 := ⟨RX3, TX3, 14, rfl, iX3, by decide, TB_t 142 (by decide +kernel) (by decide +kernel)⟩
theorem kp_X3_281 : GP RX3 281 3 3 .boolean := ⟨RX3, TX3, 14, tyX3, rfl, iX3, by decide, TB_t 143 (by decide +kernel) (by decide +kernel), tyX3_ok, nmX3, by decide +kernel, by decide +kernel⟩
theorem kc_X3_keep : GC yX3_keep mX3_keep 0 := ⟨TB_t 766 (by decide +kernel) (by decide +kernel), TB_t 1 (by decide +kernel) (by decide +kernel), by decide +kernel, by decide +kernel, by decide +kernel, by decide⟩
theorem kf_X3_281 : GF RX3 281 3 3 := ⟨RX3, TX3, 14, rfl, iX3, by decide, TB_t 143 (by decide +kernel) (by decide +kernel)⟩
theorem kc_X3_again : GC yX3_again mX3_again 0 := ⟨TB_t 770 (by decide +kernel) (by decide +kernel), TB_t 1 (by decide +kernel) (by decide +kernel), by decide +kernel, by decide +kernel, by decide +kernel, by decide⟩
theorem kc_X4_in : GC yX4_in mX4_in 3 := ⟨TB_t 785 (by decide +kernel) (by decide +kernel), TB_t 5 (by decide +kernel) (by decide +kernel), by decide +kernel, by decide +kernel, by decide +kernel, by decide⟩
theorem kf_X4_7 : GF RX4 7 4 0 := ⟨RX4, TX4, 26, rfl, iX4, by decide, TB_t 786 (by decide +kernel) (by decide +kernel)⟩
theorem kcL_X4_57 : Cond.constantLong RX4 57 (7 : Int64) ∈ TB := TB_t 781 (by decide +kernel) (by decide +kernel)
theorem kcL_X4_59 : Cond.constantLong RX4 59 (38 : Int64) ∈ TB := TB_t 782 (by decide +kernel) (by decide +kernel)
theorem kt_X4_61 : GT RX4 61 yX4_in mX4_in 3 := ⟨kc_X4_in, TB_t 784 (by decide +kernel) (by decide +kernel), Or.inl (TB_t 783 (by decide +kernel) (by decide +kernel))⟩
theorem kc_X4_first : GC yX4_first mX4_first 0 := ⟨TB_t 780 (by decide +kernel) (by decide +kernel), TB_t 5 (by decide +kernel) (by decide +kernel), by decide +kernel, by decide +kernel, by decide +kernel, by decide⟩
theorem kc_X4_held : GC yX4_held mX4_held 1 := ⟨TB_t 1001 (by decide +kernel) (by decide +kernel), TB_t 5 (by decide +kernel) (by decide +kernel), by decide +kernel, by decide +kernel, by decide +kernel, by decide⟩
theorem kc_X4_isPerson : GC yX4_isPerson mX4_isPerson 1 := ⟨TB_t 902 (by decide +kernel) (by decide +kernel), TB_t 5 (by decide +kernel) (by decide +kernel), by decide +kernel, by decide +kernel, by decide +kernel, by decide⟩
theorem kcL_X4_65 : Cond.constantLong RX4 65 (31 : Int64) ∈ TB := TB_t 886 (by decide +kernel) (by decide +kernel)
theorem kc_X4_isCell : GC yX4_isCell mX4_isCell 1 := ⟨TB_t 885 (by decide +kernel) (by decide +kernel), TB_t 5 (by decide +kernel) (by decide +kernel), by decide +kernel, by decide +kernel, by decide +kernel, by decide⟩
theorem kc_X4_get : GC yX4_get mX4_get 2 := ⟨TB_t 910 (by decide +kernel) (by decide +kernel), TB_t 5 (by decide +kernel) (by decide +kernel), by decide +kernel, by decide +kernel, by decide +kernel, by decide⟩
theorem kc_X4_puts : GC yX4_puts mX4_puts 3 := ⟨TB_t 894 (by decide +kernel) (by decide +kernel), TB_t 5 (by decide +kernel) (by decide +kernel), by decide +kernel, by decide +kernel, by decide +kernel, by decide⟩
theorem kf_X4_16 : GF RX4 16 4 2 := ⟨RX4, TX4, 26, rfl, iX4, by decide, TB_t 788 (by decide +kernel) (by decide +kernel)⟩
theorem kc_X4_keepAside : GC yX4_keepAside mX4_keepAside 0 := ⟨TB_t 1038 (by decide +kernel) (by decide +kernel), TB_t 5 (by decide +kernel) (by decide +kernel), by decide +kernel, by decide +kernel, by decide +kernel, by decide⟩
theorem kc_X4_putBack : GC yX4_putBack mX4_putBack 0 := ⟨TB_t 1042 (by decide +kernel) (by decide +kernel), TB_t 5 (by decide +kernel) (by decide +kernel), by decide +kernel, by decide +kernel, by decide +kernel, by decide⟩
theorem kc_X4_bits : GC yX4_bits mX4_bits 1 := ⟨TB_t 1029 (by decide +kernel) (by decide +kernel), TB_t 5 (by decide +kernel) (by decide +kernel), by decide +kernel, by decide +kernel, by decide +kernel, by decide⟩
theorem kv_X4_67 : GV RX4 67 yX4_get mX4_get 2 := ⟨kc_X4_get, TB_t 907 (by decide +kernel) (by decide +kernel), TB_t 909 (by decide +kernel) (by decide +kernel), TB_p 36 (by decide +kernel) (by decide +kernel)⟩
theorem kf_X4_71 : GF RX4 71 4 4 := ⟨RX4, TX4, 26, rfl, iX4, by decide, TB_t 790 (by decide +kernel) (by decide +kernel)⟩
theorem kc_X4_wells : GC yX4_wells mX4_wells 1 := ⟨TB_t 906 (by decide +kernel) (by decide +kernel), TB_t 5 (by decide +kernel) (by decide +kernel), by decide +kernel, by decide +kernel, by decide +kernel, by decide⟩
theorem kc_X4_losesOf : GC yX4_losesOf mX4_losesOf 1 := ⟨TB_t 930 (by decide +kernel) (by decide +kernel), TB_t 5 (by decide +kernel) (by decide +kernel), by decide +kernel, by decide +kernel, by decide +kernel, by decide⟩
theorem kc_X4_winsOf : GC yX4_winsOf mX4_winsOf 1 := ⟨TB_t 914 (by decide +kernel) (by decide +kernel), TB_t 5 (by decide +kernel) (by decide +kernel), by decide +kernel, by decide +kernel, by decide +kernel, by decide⟩
theorem kc_X4_doDisagree : GC yX4_doDisagree mX4_doDisagree 2 := ⟨TB_t 922 (by decide +kernel) (by decide +kernel), TB_t 5 (by decide +kernel) (by decide +kernel), by decide +kernel, by decide +kernel, by decide +kernel, by decide⟩
theorem kc_X4_lowestOf : GC yX4_lowestOf mX4_lowestOf 1 := ⟨TB_t 959 (by decide +kernel) (by decide +kernel), TB_t 5 (by decide +kernel) (by decide +kernel), by decide +kernel, by decide +kernel, by decide +kernel, by decide⟩
theorem kc_X4_isWet : GC yX4_isWet mX4_isWet 1 := ⟨TB_t 981 (by decide +kernel) (by decide +kernel), TB_t 5 (by decide +kernel) (by decide +kernel), by decide +kernel, by decide +kernel, by decide +kernel, by decide⟩
theorem kt_X4_75 : GT RX4 75 yX4_held mX4_held 1 := ⟨kc_X4_held, TB_t 1000 (by decide +kernel) (by decide +kernel), Or.inl (TB_t 999 (by decide +kernel) (by decide +kernel))⟩
theorem kc_X4_comesTo : GC yX4_comesTo mX4_comesTo 2 := ⟨TB_t 998 (by decide +kernel) (by decide +kernel), TB_t 5 (by decide +kernel) (by decide +kernel), by decide +kernel, by decide +kernel, by decide +kernel, by decide⟩
theorem kf_X4_19 : GF RX4 19 4 5 := ⟨RX4, TX4, 26, rfl, iX4, by decide, TB_t 791 (by decide +kernel) (by decide +kernel)⟩
theorem kv_X4_79 : GV RX4 79 yX4_wells mX4_wells 1 := ⟨kc_X4_wells, TB_t 903 (by decide +kernel) (by decide +kernel), TB_t 905 (by decide +kernel) (by decide +kernel), TB_p 35 (by decide +kernel) (by decide +kernel)⟩
theorem kv_X4_82 : GV RX4 82 yX4_doDisagree mX4_doDisagree 2 := ⟨kc_X4_doDisagree, TB_t 919 (by decide +kernel) (by decide +kernel), TB_t 921 (by decide +kernel) (by decide +kernel), TB_p 39 (by decide +kernel) (by decide +kernel)⟩
theorem kv_X4_86 : GV RX4 86 yX4_comesTo mX4_comesTo 2 := ⟨kc_X4_comesTo, TB_t 995 (by decide +kernel) (by decide +kernel), TB_t 997 (by decide +kernel) (by decide +kernel), TB_p 47 (by decide +kernel) (by decide +kernel)⟩
theorem kv_X4_90 : GV RX4 90 yX4_lowestOf mX4_lowestOf 1 := ⟨kc_X4_lowestOf, TB_t 956 (by decide +kernel) (by decide +kernel), TB_t 958 (by decide +kernel) (by decide +kernel), TB_p 42 (by decide +kernel) (by decide +kernel)⟩
theorem kv_X4_93 : GV RX4 93 yX4_isWet mX4_isWet 1 := ⟨kc_X4_isWet, TB_t 978 (by decide +kernel) (by decide +kernel), TB_t 980 (by decide +kernel) (by decide +kernel), TB_p 44 (by decide +kernel) (by decide +kernel)⟩
theorem kv_X4_100 : GV RX4 100 yX4_winsOf mX4_winsOf 1 := ⟨kc_X4_winsOf, TB_t 911 (by decide +kernel) (by decide +kernel), TB_t 913 (by decide +kernel) (by decide +kernel), TB_p 37 (by decide +kernel) (by decide +kernel)⟩
theorem kv_X4_97 : GV RX4 97 yX4_losesOf mX4_losesOf 1 := ⟨kc_X4_losesOf, TB_t 927 (by decide +kernel) (by decide +kernel), TB_t 929 (by decide +kernel) (by decide +kernel), TB_p 40 (by decide +kernel) (by decide +kernel)⟩
theorem kv_X4_103 : GV RX4 103 yX4_puts mX4_puts 3 := ⟨kc_X4_puts, TB_t 891 (by decide +kernel) (by decide +kernel), TB_t 893 (by decide +kernel) (by decide +kernel), TB_p 33 (by decide +kernel) (by decide +kernel)⟩
theorem kc_X4_yearGoes : GC yX4_yearGoes mX4_yearGoes 0 := ⟨TB_t 994 (by decide +kernel) (by decide +kernel), TB_t 5 (by decide +kernel) (by decide +kernel), by decide +kernel, by decide +kernel, by decide +kernel, by decide⟩
theorem kv_X4_107 : GV RX4 107 yX4_yearGoes mX4_yearGoes 0 := ⟨kc_X4_yearGoes, TB_t 991 (by decide +kernel) (by decide +kernel), TB_t 993 (by decide +kernel) (by decide +kernel), TB_p 46 (by decide +kernel) (by decide +kernel)⟩
theorem kc_X4_yearsGo : GC yX4_yearsGo mX4_yearsGo 1 := ⟨TB_t 990 (by decide +kernel) (by decide +kernel), TB_t 5 (by decide +kernel) (by decide +kernel), by decide +kernel, by decide +kernel, by decide +kernel, by decide⟩
theorem kcL_X4_110 : Cond.constantLong RX4 110 (3 : Int64) ∈ TB := TB_t 870 (by decide +kernel) (by decide +kernel)
theorem kcL_X4_116 : Cond.constantLong RX4 116 (99 : Int64) ∈ TB := TB_t 873 (by decide +kernel) (by decide +kernel)
theorem kcL_X4_114 : Cond.constantLong RX4 114 (50 : Int64) ∈ TB := TB_t 872 (by decide +kernel) (by decide +kernel)
theorem kcL_X4_112 : Cond.constantLong RX4 112 (9 : Int64) ∈ TB := TB_t 871 (by decide +kernel) (by decide +kernel)
theorem kc_X4_set : GC yX4_set mX4_set 2 := ⟨TB_t 869 (by decide +kernel) (by decide +kernel), TB_t 5 (by decide +kernel) (by decide +kernel), by decide +kernel, by decide +kernel, by decide +kernel, by decide⟩
theorem kc_X4_lawOf : GC yX4_lawOf mX4_lawOf 1 := ⟨TB_t 877 (by decide +kernel) (by decide +kernel), TB_t 5 (by decide +kernel) (by decide +kernel), by decide +kernel, by decide +kernel, by decide +kernel, by decide⟩
theorem kc_X4_comes : GC yX4_comes mX4_comes 4 := ⟨TB_t 890 (by decide +kernel) (by decide +kernel), TB_t 5 (by decide +kernel) (by decide +kernel), by decide +kernel, by decide +kernel, by decide +kernel, by decide⟩
theorem kcL_X4_118 : Cond.constantLong RX4 118 (5 : Int64) ∈ TB := TB_t 882 (by decide +kernel) (by decide +kernel)
theorem kt_X4_120 : GT RX4 120 yX4_isCell mX4_isCell 1 := ⟨kc_X4_isCell, TB_t 884 (by decide +kernel) (by decide +kernel), Or.inl (TB_t 883 (by decide +kernel) (by decide +kernel))⟩
theorem kv_X4_123 : GV RX4 123 yX4_comes mX4_comes 4 := ⟨kc_X4_comes, TB_t 887 (by decide +kernel) (by decide +kernel), TB_t 889 (by decide +kernel) (by decide +kernel), TB_p 32 (by decide +kernel) (by decide +kernel)⟩
theorem kc_X4_person : GC yX4_person mX4_person 4 := ⟨TB_t 881 (by decide +kernel) (by decide +kernel), TB_t 5 (by decide +kernel) (by decide +kernel), by decide +kernel, by decide +kernel, by decide +kernel, by decide⟩
theorem kc_X4_foesOf : GC yX4_foesOf mX4_foesOf 1 := ⟨TB_t 918 (by decide +kernel) (by decide +kernel), TB_t 5 (by decide +kernel) (by decide +kernel), by decide +kernel, by decide +kernel, by decide +kernel, by decide⟩
theorem kv_X4_127 : GV RX4 127 yX4_isPerson mX4_isPerson 1 := ⟨kc_X4_isPerson, TB_t 899 (by decide +kernel) (by decide +kernel), TB_t 901 (by decide +kernel) (by decide +kernel), TB_p 34 (by decide +kernel) (by decide +kernel)⟩
theorem kv_X4_130 : GV RX4 130 yX4_foesOf mX4_foesOf 1 := ⟨kc_X4_foesOf, TB_t 915 (by decide +kernel) (by decide +kernel), TB_t 917 (by decide +kernel) (by decide +kernel), TB_p 38 (by decide +kernel) (by decide +kernel)⟩
theorem kc_X4_of : GC yX4_of mX4_of 2 := ⟨TB_t 898 (by decide +kernel) (by decide +kernel), TB_t 5 (by decide +kernel) (by decide +kernel), by decide +kernel, by decide +kernel, by decide +kernel, by decide⟩
theorem kc_X4_loses : GC yX4_loses mX4_loses 1 := ⟨TB_t 926 (by decide +kernel) (by decide +kernel), TB_t 5 (by decide +kernel) (by decide +kernel), by decide +kernel, by decide +kernel, by decide +kernel, by decide⟩
theorem kc_X4_mind : GC yX4_mind mX4_mind 3 := ⟨TB_t 934 (by decide +kernel) (by decide +kernel), TB_t 5 (by decide +kernel) (by decide +kernel), by decide +kernel, by decide +kernel, by decide +kernel, by decide⟩
theorem kc_X4_sure : GC yX4_sure mX4_sure 2 := ⟨TB_t 938 (by decide +kernel) (by decide +kernel), TB_t 5 (by decide +kernel) (by decide +kernel), by decide +kernel, by decide +kernel, by decide +kernel, by decide⟩
theorem kc_X4_bring : GC yX4_bring mX4_bring 2 := ⟨TB_t 942 (by decide +kernel) (by decide +kernel), TB_t 5 (by decide +kernel) (by decide +kernel), by decide +kernel, by decide +kernel, by decide +kernel, by decide⟩
theorem kc_X4_atCell : GC yX4_atCell mX4_atCell 2 := ⟨TB_t 951 (by decide +kernel) (by decide +kernel), TB_t 5 (by decide +kernel) (by decide +kernel), by decide +kernel, by decide +kernel, by decide +kernel, by decide⟩
theorem kcL_X4_133 : Cond.constantLong RX4 133 (4 : Int64) ∈ TB := TB_t 947 (by decide +kernel) (by decide +kernel)
theorem kv_X4_135 : GV RX4 135 yX4_atCell mX4_atCell 2 := ⟨kc_X4_atCell, TB_t 948 (by decide +kernel) (by decide +kernel), TB_t 950 (by decide +kernel) (by decide +kernel), TB_p 41 (by decide +kernel) (by decide +kernel)⟩
theorem kc_X4_cell : GC yX4_cell mX4_cell 2 := ⟨TB_t 946 (by decide +kernel) (by decide +kernel), TB_t 5 (by decide +kernel) (by decide +kernel), by decide +kernel, by decide +kernel, by decide +kernel, by decide⟩
theorem kc_X4_lowest : GC yX4_lowest mX4_lowest 1 := ⟨TB_t 955 (by decide +kernel) (by decide +kernel), TB_t 5 (by decide +kernel) (by decide +kernel), by decide +kernel, by decide +kernel, by decide +kernel, by decide⟩
theorem kc_X4_water : GC yX4_water mX4_water 2 := ⟨TB_t 963 (by decide +kernel) (by decide +kernel), TB_t 5 (by decide +kernel) (by decide +kernel), by decide +kernel, by decide +kernel, by decide +kernel, by decide⟩
theorem kc_X4_height : GC yX4_height mX4_height 2 := ⟨TB_t 967 (by decide +kernel) (by decide +kernel), TB_t 5 (by decide +kernel) (by decide +kernel), by decide +kernel, by decide +kernel, by decide +kernel, by decide⟩
theorem kc_X4_isSuch : GC yX4_isSuch mX4_isSuch 2 := ⟨TB_t 977 (by decide +kernel) (by decide +kernel), TB_t 5 (by decide +kernel) (by decide +kernel), by decide +kernel, by decide +kernel, by decide +kernel, by decide⟩
theorem kv_X4_138 : GV RX4 138 yX4_isSuch mX4_isSuch 2 := ⟨kc_X4_isSuch, TB_t 974 (by decide +kernel) (by decide +kernel), TB_t 976 (by decide +kernel) (by decide +kernel), TB_p 43 (by decide +kernel) (by decide +kernel)⟩
theorem kc_X4_cellsSuch : GC yX4_cellsSuch mX4_cellsSuch 1 := ⟨TB_t 1005 (by decide +kernel) (by decide +kernel), TB_t 5 (by decide +kernel) (by decide +kernel), by decide +kernel, by decide +kernel, by decide +kernel, by decide⟩
theorem kcL_X4_141 : Cond.constantLong RX4 141 (2 : Int64) ∈ TB := TB_t 972 (by decide +kernel) (by decide +kernel)
theorem kcL_X4_143 : Cond.constantLong RX4 143 (-1 : Int64) ∈ TB := TB_t 973 (by decide +kernel) (by decide +kernel)
theorem kc_X4_wets : GC yX4_wets mX4_wets 1 := ⟨TB_t 971 (by decide +kernel) (by decide +kernel), TB_t 5 (by decide +kernel) (by decide +kernel), by decide +kernel, by decide +kernel, by decide +kernel, by decide⟩
theorem kc_X4_lost : GC yX4_lost mX4_lost 0 := ⟨TB_t 1026 (by decide +kernel) (by decide +kernel), TB_t 5 (by decide +kernel) (by decide +kernel), by decide +kernel, by decide +kernel, by decide +kernel, by decide⟩
theorem kcL_X4_145 : Cond.constantLong RX4 145 (60 : Int64) ∈ TB := TB_t 986 (by decide +kernel) (by decide +kernel)
theorem kv_X4_147 : GV RX4 147 yX4_yearsGo mX4_yearsGo 1 := ⟨kc_X4_yearsGo, TB_t 987 (by decide +kernel) (by decide +kernel), TB_t 989 (by decide +kernel) (by decide +kernel), TB_p 45 (by decide +kernel) (by decide +kernel)⟩
theorem kv_X4_151 : GV RX4 151 yX4_cellsSuch mX4_cellsSuch 1 := ⟨kc_X4_cellsSuch, TB_t 1002 (by decide +kernel) (by decide +kernel), TB_t 1004 (by decide +kernel) (by decide +kernel), TB_p 48 (by decide +kernel) (by decide +kernel)⟩
theorem kc_X4_years : GC yX4_years mX4_years 1 := ⟨TB_t 985 (by decide +kernel) (by decide +kernel), TB_t 5 (by decide +kernel) (by decide +kernel), by decide +kernel, by decide +kernel, by decide +kernel, by decide⟩
theorem kc_X4_seed : GC yX4_seed mX4_seed 1 := ⟨TB_t 1009 (by decide +kernel) (by decide +kernel), TB_t 5 (by decide +kernel) (by decide +kernel), by decide +kernel, by decide +kernel, by decide +kernel, by decide⟩
theorem kcon_X4_154 : Cond.constant RX4 154 (1103515245 : Int32) ∈ TB := TB_t 1022 (by decide +kernel) (by decide +kernel)
theorem kc_X4_drawn : GC yX4_drawn mX4_drawn 0 := ⟨TB_t 1021 (by decide +kernel) (by decide +kernel), TB_t 5 (by decide +kernel) (by decide +kernel), by decide +kernel, by decide +kernel, by decide +kernel, by decide⟩
theorem kv_X4_155 : GV RX4 155 yX4_drawn mX4_drawn 0 := ⟨kc_X4_drawn, TB_t 1018 (by decide +kernel) (by decide +kernel), TB_t 1020 (by decide +kernel) (by decide +kernel), TB_p 50 (by decide +kernel) (by decide +kernel)⟩
theorem kc_X4_yearByDraws : GC yX4_yearByDraws mX4_yearByDraws 0 := ⟨TB_t 1017 (by decide +kernel) (by decide +kernel), TB_t 5 (by decide +kernel) (by decide +kernel), by decide +kernel, by decide +kernel, by decide +kernel, by decide⟩
theorem kv_X4_159 : GV RX4 159 yX4_yearByDraws mX4_yearByDraws 0 := ⟨kc_X4_yearByDraws, TB_t 1014 (by decide +kernel) (by decide +kernel), TB_t 1016 (by decide +kernel) (by decide +kernel), TB_p 49 (by decide +kernel) (by decide +kernel)⟩
theorem kv_X4_162 : GV RX4 162 yX4_lost mX4_lost 0 := ⟨kc_X4_lost, TB_t 1023 (by decide +kernel) (by decide +kernel), TB_t 1025 (by decide +kernel) (by decide +kernel), TB_p 51 (by decide +kernel) (by decide +kernel)⟩
theorem kt_X4_165 : GT RX4 165 yX4_bits mX4_bits 1 := ⟨kc_X4_bits, TB_t 1028 (by decide +kernel) (by decide +kernel), Or.inl (TB_t 1027 (by decide +kernel) (by decide +kernel))⟩
theorem kc_X4_year : GC yX4_year mX4_year 0 := ⟨TB_t 1013 (by decide +kernel) (by decide +kernel), TB_t 5 (by decide +kernel) (by decide +kernel), by decide +kernel, by decide +kernel, by decide +kernel, by decide⟩
theorem kcL_X4_168 : Cond.constantLong RX4 168 (30 : Int64) ∈ TB := TB_t 1034 (by decide +kernel) (by decide +kernel)
theorem kv_X4_170 : GV RX4 170 yX4_keepAside mX4_keepAside 0 := ⟨kc_X4_keepAside, TB_t 1035 (by decide +kernel) (by decide +kernel), TB_t 1037 (by decide +kernel) (by decide +kernel), TB_p 52 (by decide +kernel) (by decide +kernel)⟩
theorem kv_X4_173 : GV RX4 173 yX4_putBack mX4_putBack 0 := ⟨kc_X4_putBack, TB_t 1039 (by decide +kernel) (by decide +kernel), TB_t 1041 (by decide +kernel) (by decide +kernel), TB_p 53 (by decide +kernel) (by decide +kernel)⟩
theorem kc_X4_revel : GC yX4_revel mX4_revel 1 := ⟨TB_t 1033 (by decide +kernel) (by decide +kernel), TB_t 5 (by decide +kernel) (by decide +kernel), by decide +kernel, by decide +kernel, by decide +kernel, by decide⟩
theorem kc_X4_state : GC yX4_state mX4_state 1 := ⟨TB_t 1046 (by decide +kernel) (by decide +kernel), TB_t 5 (by decide +kernel) (by decide +kernel), by decide +kernel, by decide +kernel, by decide +kernel, by decide⟩
theorem kc_X4_levelWith : GC yX4_levelWith mX4_levelWith 4 := ⟨TB_t 1054 (by decide +kernel) (by decide +kernel), TB_t 5 (by decide +kernel) (by decide +kernel), by decide +kernel, by decide +kernel, by decide +kernel, by decide⟩
theorem kv_X4_176 : GV RX4 176 yX4_levelWith mX4_levelWith 4 := ⟨kc_X4_levelWith, TB_t 1051 (by decide +kernel) (by decide +kernel), TB_t 1053 (by decide +kernel) (by decide +kernel), TB_p 54 (by decide +kernel) (by decide +kernel)⟩
theorem kc_X4_level : GC yX4_level mX4_level 2 := ⟨TB_t 1050 (by decide +kernel) (by decide +kernel), TB_t 5 (by decide +kernel) (by decide +kernel), by decide +kernel, by decide +kernel, by decide +kernel, by decide⟩
theorem kc_X4_isDrowned : GC yX4_isDrowned mX4_isDrowned 0 := ⟨TB_t 1066 (by decide +kernel) (by decide +kernel), TB_t 5 (by decide +kernel) (by decide +kernel), by decide +kernel, by decide +kernel, by decide +kernel, by decide⟩
theorem kv_X4_179 : GV RX4 179 yX4_isDrowned mX4_isDrowned 0 := ⟨kc_X4_isDrowned, TB_t 1063 (by decide +kernel) (by decide +kernel), TB_t 1065 (by decide +kernel) (by decide +kernel), TB_p 56 (by decide +kernel) (by decide +kernel)⟩
theorem kc_X4_whenFirst : GC yX4_whenFirst mX4_whenFirst 2 := ⟨TB_t 1062 (by decide +kernel) (by decide +kernel), TB_t 5 (by decide +kernel) (by decide +kernel), by decide +kernel, by decide +kernel, by decide +kernel, by decide⟩
theorem kv_X4_183 : GV RX4 183 yX4_whenFirst mX4_whenFirst 2 := ⟨kc_X4_whenFirst, TB_t 1059 (by decide +kernel) (by decide +kernel), TB_t 1061 (by decide +kernel) (by decide +kernel), TB_p 55 (by decide +kernel) (by decide +kernel)⟩
theorem kc_X4_damp : GC yX4_damp mX4_damp 1 := ⟨TB_t 1058 (by decide +kernel) (by decide +kernel), TB_t 5 (by decide +kernel) (by decide +kernel), by decide +kernel, by decide +kernel, by decide +kernel, by decide⟩
theorem kc_X4_loss : GC yX4_loss mX4_loss 1 := ⟨TB_t 1070 (by decide +kernel) (by decide +kernel), TB_t 5 (by decide +kernel) (by decide +kernel), by decide +kernel, by decide +kernel, by decide +kernel, by decide⟩
theorem kc_X4_drowned : GC yX4_drowned mX4_drowned 0 := ⟨TB_t 1074 (by decide +kernel) (by decide +kernel), TB_t 5 (by decide +kernel) (by decide +kernel), by decide +kernel, by decide +kernel, by decide +kernel, by decide⟩
theorem kcL_X4_186 : Cond.constantLong RX4 186 (20 : Int64) ∈ TB := TB_t 1083 (by decide +kernel) (by decide +kernel)
theorem kc_X4_isAsk : GC yX4_isAsk mX4_isAsk 3 := ⟨TB_t 1082 (by decide +kernel) (by decide +kernel), TB_t 5 (by decide +kernel) (by decide +kernel), by decide +kernel, by decide +kernel, by decide +kernel, by decide⟩
theorem kc_X4_mostBy : GC yX4_mostBy mX4_mostBy 4 := ⟨TB_t 1087 (by decide +kernel) (by decide +kernel), TB_t 5 (by decide +kernel) (by decide +kernel), by decide +kernel, by decide +kernel, by decide +kernel, by decide⟩
theorem kv_X4_188 : GV RX4 188 yX4_isAsk mX4_isAsk 3 := ⟨kc_X4_isAsk, TB_t 1079 (by decide +kernel) (by decide +kernel), TB_t 1081 (by decide +kernel) (by decide +kernel), TB_p 57 (by decide +kernel) (by decide +kernel)⟩
theorem kv_X4_192 : GV RX4 192 yX4_mostBy mX4_mostBy 4 := ⟨kc_X4_mostBy, TB_t 1084 (by decide +kernel) (by decide +kernel), TB_t 1086 (by decide +kernel) (by decide +kernel), TB_p 58 (by decide +kernel) (by decide +kernel)⟩
theorem kc_X4_whereFor : GC yX4_whereFor mX4_whereFor 3 := ⟨TB_t 1078 (by decide +kernel) (by decide +kernel), TB_t 5 (by decide +kernel) (by decide +kernel), by decide +kernel, by decide +kernel, by decide +kernel, by decide⟩
theorem kc_X4_kindFor : GC yX4_kindFor mX4_kindFor 3 := ⟨TB_t 1091 (by decide +kernel) (by decide +kernel), TB_t 5 (by decide +kernel) (by decide +kernel), by decide +kernel, by decide +kernel, by decide +kernel, by decide⟩
theorem kc_X4_annoyed : GC yX4_annoyed mX4_annoyed 3 := ⟨TB_t 1095 (by decide +kernel) (by decide +kernel), TB_t 5 (by decide +kernel) (by decide +kernel), by decide +kernel, by decide +kernel, by decide +kernel, by decide⟩
theorem kp_X4_71 : GP RX4 71 4 4 .int := ⟨RX4, TX4, 26, tyX4, rfl, iX4, by decide, TB_t 790 (by decide +kernel) (by decide +kernel), tyX4_ok, nmX4, by decide +kernel, by decide +kernel⟩
theorem kc_X4_levelWithout : GC yX4_levelWithout mX4_levelWithout 3 := ⟨TB_t 1103 (by decide +kernel) (by decide +kernel), TB_t 5 (by decide +kernel) (by decide +kernel), by decide +kernel, by decide +kernel, by decide +kernel, by decide⟩
theorem kv_X4_195 : GV RX4 195 yX4_levelWithout mX4_levelWithout 3 := ⟨kc_X4_levelWithout, TB_t 1100 (by decide +kernel) (by decide +kernel), TB_t 1102 (by decide +kernel) (by decide +kernel), TB_p 59 (by decide +kernel) (by decide +kernel)⟩
theorem kc_X4_needed : GC yX4_needed mX4_needed 2 := ⟨TB_t 1099 (by decide +kernel) (by decide +kernel), TB_t 5 (by decide +kernel) (by decide +kernel), by decide +kernel, by decide +kernel, by decide +kernel, by decide⟩
theorem kc_X4_fewest : GC yX4_fewest mX4_fewest 2 := ⟨TB_t 1107 (by decide +kernel) (by decide +kernel), TB_t 5 (by decide +kernel) (by decide +kernel), by decide +kernel, by decide +kernel, by decide +kernel, by decide⟩
theorem kc_X4_ends : GC yX4_ends mX4_ends 1 := ⟨TB_t 1111 (by decide +kernel) (by decide +kernel), TB_t 5 (by decide +kernel) (by decide +kernel), by decide +kernel, by decide +kernel, by decide +kernel, by decide⟩
theorem kf_X4_35 : GF RX4 35 4 17 := ⟨RX4, TX4, 26, rfl, iX4, by decide, TB_t 803 (by decide +kernel) (by decide +kernel)⟩
theorem kf_X4_38 : GF RX4 38 4 18 := ⟨RX4, TX4, 26, rfl, iX4, by decide, TB_t 804 (by decide +kernel) (by decide +kernel)⟩
theorem kc_X4_isTold : GC yX4_isTold mX4_isTold 4 := ⟨TB_t 1122 (by decide +kernel) (by decide +kernel), TB_t 5 (by decide +kernel) (by decide +kernel), by decide +kernel, by decide +kernel, by decide +kernel, by decide⟩
theorem kc_X4_isSheet : GC yX4_isSheet mX4_isSheet 1 := ⟨TB_t 1118 (by decide +kernel) (by decide +kernel), TB_t 5 (by decide +kernel) (by decide +kernel), by decide +kernel, by decide +kernel, by decide +kernel, by decide⟩
theorem kt_X4_199 : GT RX4 199 yX4_isSheet mX4_isSheet 1 := ⟨kc_X4_isSheet, TB_t 1117 (by decide +kernel) (by decide +kernel), Or.inl (TB_t 1116 (by decide +kernel) (by decide +kernel))⟩
theorem kf_X4_32 : GF RX4 32 4 16 := ⟨RX4, TX4, 26, rfl, iX4, by decide, TB_t 802 (by decide +kernel) (by decide +kernel)⟩
theorem kv_X4_202 : GV RX4 202 yX4_isTold mX4_isTold 4 := ⟨kc_X4_isTold, TB_t 1119 (by decide +kernel) (by decide +kernel), TB_t 1121 (by decide +kernel) (by decide +kernel), TB_p 60 (by decide +kernel) (by decide +kernel)⟩
theorem kc_X4_fits : GC yX4_fits mX4_fits 4 := ⟨TB_t 1115 (by decide +kernel) (by decide +kernel), TB_t 5 (by decide +kernel) (by decide +kernel), by decide +kernel, by decide +kernel, by decide +kernel, by decide⟩
theorem kc_X4_common : GC yX4_common mX4_common 2 := ⟨TB_t 1134 (by decide +kernel) (by decide +kernel), TB_t 5 (by decide +kernel) (by decide +kernel), by decide +kernel, by decide +kernel, by decide +kernel, by decide⟩
theorem kt_X4_206 : GT RX4 206 yX4_common mX4_common 2 := ⟨kc_X4_common, TB_t 1133 (by decide +kernel) (by decide +kernel), Or.inl (TB_t 1132 (by decide +kernel) (by decide +kernel))⟩
theorem kc_X4_partOf : GC yX4_partOf mX4_partOf 3 := ⟨TB_t 1131 (by decide +kernel) (by decide +kernel), TB_t 5 (by decide +kernel) (by decide +kernel), by decide +kernel, by decide +kernel, by decide +kernel, by decide⟩
theorem kcL_X4_210 : Cond.constantLong RX4 210 (8 : Int64) ∈ TB := TB_t 1127 (by decide +kernel) (by decide +kernel)
theorem kcL_X4_212 : Cond.constantLong RX4 212 (100 : Int64) ∈ TB := TB_t 1128 (by decide +kernel) (by decide +kernel)
theorem kt_X4_214 : GT RX4 214 yX4_partOf mX4_partOf 3 := ⟨kc_X4_partOf, TB_t 1130 (by decide +kernel) (by decide +kernel), Or.inl (TB_t 1129 (by decide +kernel) (by decide +kernel))⟩
theorem kc_X4_odds : GC yX4_odds mX4_odds 3 := ⟨TB_t 1126 (by decide +kernel) (by decide +kernel), TB_t 5 (by decide +kernel) (by decide +kernel), by decide +kernel, by decide +kernel, by decide +kernel, by decide⟩
theorem kc_X4_hope : GC yX4_hope mX4_hope 2 := ⟨TB_t 1138 (by decide +kernel) (by decide +kernel), TB_t 5 (by decide +kernel) (by decide +kernel), by decide +kernel, by decide +kernel, by decide +kernel, by decide⟩
theorem kf_X4_218 : GF RX4 218 4 7 := ⟨RX4, TX4, 26, rfl, iX4, by decide, TB_t 793 (by decide +kernel) (by decide +kernel)⟩
theorem kf_X4_22 : GF RX4 22 4 6 := ⟨RX4, TX4, 26, rfl, iX4, by decide, TB_t 792 (by decide +kernel) (by decide +kernel)⟩
theorem kcL_X4_221 : Cond.constantLong RX4 221 (255 : Int64) ∈ TB := TB_t 1143 (by decide +kernel) (by decide +kernel)
theorem kp_X4_218 : GP RX4 218 4 7 .int := ⟨RX4, TX4, 26, tyX4, rfl, iX4, by decide, TB_t 793 (by decide +kernel) (by decide +kernel), tyX4_ok, nmX4, by decide +kernel, by decide +kernel⟩
theorem kc_X4_feed : GC yX4_feed mX4_feed 2 := ⟨TB_t 1142 (by decide +kernel) (by decide +kernel), TB_t 5 (by decide +kernel) (by decide +kernel), by decide +kernel, by decide +kernel, by decide +kernel, by decide⟩
theorem kf_X4_223 : GF RX4 223 4 8 := ⟨RX4, TX4, 26, rfl, iX4, by decide, TB_t 794 (by decide +kernel) (by decide +kernel)⟩
theorem kc_X4_isRow : GC yX4_isRow mX4_isRow 2 := ⟨TB_t 1159 (by decide +kernel) (by decide +kernel), TB_t 5 (by decide +kernel) (by decide +kernel), by decide +kernel, by decide +kernel, by decide +kernel, by decide⟩
theorem kf_X4_226 : GF RX4 226 4 9 := ⟨RX4, TX4, 26, rfl, iX4, by decide, TB_t 795 (by decide +kernel) (by decide +kernel)⟩
theorem kf_X4_25 : GF RX4 25 4 12 := ⟨RX4, TX4, 26, rfl, iX4, by decide, TB_t 798 (by decide +kernel) (by decide +kernel)⟩
theorem kc_X4_wordThere : GC yX4_wordThere mX4_wordThere 0 := ⟨TB_t 1163 (by decide +kernel) (by decide +kernel), TB_t 5 (by decide +kernel) (by decide +kernel), by decide +kernel, by decide +kernel, by decide +kernel, by decide⟩
theorem kp_X4_223 : GP RX4 223 4 8 .int := ⟨RX4, TX4, 26, tyX4, rfl, iX4, by decide, TB_t 794 (by decide +kernel) (by decide +kernel), tyX4_ok, nmX4, by decide +kernel, by decide +kernel⟩
theorem kp_X4_226 : GP RX4 226 4 9 .int := ⟨RX4, TX4, 26, tyX4, rfl, iX4, by decide, TB_t 795 (by decide +kernel) (by decide +kernel), tyX4_ok, nmX4, by decide +kernel, by decide +kernel⟩
theorem kp_X4_229 : GP RX4 229 4 11 .int := ⟨RX4, TX4, 26, tyX4, rfl, iX4, by decide, TB_t 797 (by decide +kernel) (by decide +kernel), tyX4_ok, nmX4, by decide +kernel, by decide +kernel⟩
theorem kv_X4_235 : GV RX4 235 yX4_isRow mX4_isRow 2 := ⟨kc_X4_isRow, TB_t 1156 (by decide +kernel) (by decide +kernel), TB_t 1158 (by decide +kernel) (by decide +kernel), TB_p 63 (by decide +kernel) (by decide +kernel)⟩
theorem kp_X4_232 : GP RX4 232 4 10 .int := ⟨RX4, TX4, 26, tyX4, rfl, iX4, by decide, TB_t 796 (by decide +kernel) (by decide +kernel), tyX4_ok, nmX4, by decide +kernel, by decide +kernel⟩
theorem kf_X4_229 : GF RX4 229 4 11 := ⟨RX4, TX4, 26, rfl, iX4, by decide, TB_t 797 (by decide +kernel) (by decide +kernel)⟩
theorem kv_X4_239 : GV RX4 239 yX4_wordThere mX4_wordThere 0 := ⟨kc_X4_wordThere, TB_t 1160 (by decide +kernel) (by decide +kernel), TB_t 1162 (by decide +kernel) (by decide +kernel), TB_p 64 (by decide +kernel) (by decide +kernel)⟩
theorem kc_X4_next : GC yX4_next mX4_next 0 := ⟨TB_t 1155 (by decide +kernel) (by decide +kernel), TB_t 5 (by decide +kernel) (by decide +kernel), by decide +kernel, by decide +kernel, by decide +kernel, by decide⟩
theorem kf_X4_232 : GF RX4 232 4 10 := ⟨RX4, TX4, 26, rfl, iX4, by decide, TB_t 796 (by decide +kernel) (by decide +kernel)⟩
theorem kc_X4_isWord : GC yX4_isWord mX4_isWord 1 := ⟨TB_t 1175 (by decide +kernel) (by decide +kernel), TB_t 5 (by decide +kernel) (by decide +kernel), by decide +kernel, by decide +kernel, by decide +kernel, by decide⟩
theorem kv_X4_242 : GV RX4 242 yX4_next mX4_next 0 := ⟨kc_X4_next, TB_t 1152 (by decide +kernel) (by decide +kernel), TB_t 1154 (by decide +kernel) (by decide +kernel), TB_p 62 (by decide +kernel) (by decide +kernel)⟩
theorem kp_X4_245 : GP RX4 245 4 13 .int := ⟨RX4, TX4, 26, tyX4, rfl, iX4, by decide, TB_t 799 (by decide +kernel) (by decide +kernel), tyX4_ok, nmX4, by decide +kernel, by decide +kernel⟩
theorem kc_X4_reads : GC yX4_reads mX4_reads 1 := ⟨TB_t 1179 (by decide +kernel) (by decide +kernel), TB_t 5 (by decide +kernel) (by decide +kernel), by decide +kernel, by decide +kernel, by decide +kernel, by decide⟩
theorem kv_X4_248 : GV RX4 248 yX4_isWord mX4_isWord 1 := ⟨kc_X4_isWord, TB_t 1172 (by decide +kernel) (by decide +kernel), TB_t 1174 (by decide +kernel) (by decide +kernel), TB_p 67 (by decide +kernel) (by decide +kernel)⟩
theorem kc_X4_readsWord : GC yX4_readsWord mX4_readsWord 1 := ⟨TB_t 1171 (by decide +kernel) (by decide +kernel), TB_t 5 (by decide +kernel) (by decide +kernel), by decide +kernel, by decide +kernel, by decide +kernel, by decide⟩
theorem kv_X4_251 : GV RX4 251 yX4_readsWord mX4_readsWord 1 := ⟨kc_X4_readsWord, TB_t 1168 (by decide +kernel) (by decide +kernel), TB_t 1170 (by decide +kernel) (by decide +kernel), TB_p 66 (by decide +kernel) (by decide +kernel)⟩
theorem kv_X4_254 : GV RX4 254 yX4_reads mX4_reads 1 := ⟨kc_X4_reads, TB_t 1176 (by decide +kernel) (by decide +kernel), TB_t 1178 (by decide +kernel) (by decide +kernel), TB_p 68 (by decide +kernel) (by decide +kernel)⟩
theorem kf_X4_245 : GF RX4 245 4 13 := ⟨RX4, TX4, 26, rfl, iX4, by decide, TB_t 799 (by decide +kernel) (by decide +kernel)⟩
theorem kc_X4_readsPerson : GC yX4_readsPerson mX4_readsPerson 3 := ⟨TB_t 1167 (by decide +kernel) (by decide +kernel), TB_t 5 (by decide +kernel) (by decide +kernel), by decide +kernel, by decide +kernel, by decide +kernel, by decide⟩
theorem kc_X4_readsCell : GC yX4_readsCell mX4_readsCell 2 := ⟨TB_t 1185 (by decide +kernel) (by decide +kernel), TB_t 5 (by decide +kernel) (by decide +kernel), by decide +kernel, by decide +kernel, by decide +kernel, by decide⟩
theorem kc_X4_readsLaw : GC yX4_readsLaw mX4_readsLaw 2 := ⟨TB_t 1189 (by decide +kernel) (by decide +kernel), TB_t 5 (by decide +kernel) (by decide +kernel), by decide +kernel, by decide +kernel, by decide +kernel, by decide⟩
theorem kcL_X4_261 : Cond.constantLong RX4 261 (10 : Int64) ∈ TB := TB_t 1180 (by decide +kernel) (by decide +kernel)
theorem kcL_X4_263 : Cond.constantLong RX4 263 (11 : Int64) ∈ TB := TB_t 1181 (by decide +kernel) (by decide +kernel)
theorem kv_X4_269 : GV RX4 269 yX4_readsLaw mX4_readsLaw 2 := ⟨kc_X4_readsLaw, TB_t 1186 (by decide +kernel) (by decide +kernel), TB_t 1188 (by decide +kernel) (by decide +kernel), TB_p 70 (by decide +kernel) (by decide +kernel)⟩
theorem kv_X4_265 : GV RX4 265 yX4_readsCell mX4_readsCell 2 := ⟨kc_X4_readsCell, TB_t 1182 (by decide +kernel) (by decide +kernel), TB_t 1184 (by decide +kernel) (by decide +kernel), TB_p 69 (by decide +kernel) (by decide +kernel)⟩
theorem kv_X4_257 : GV RX4 257 yX4_readsPerson mX4_readsPerson 3 := ⟨kc_X4_readsPerson, TB_t 1164 (by decide +kernel) (by decide +kernel), TB_t 1166 (by decide +kernel) (by decide +kernel), TB_p 65 (by decide +kernel) (by decide +kernel)⟩
theorem kc_X4_readsAll : GC yX4_readsAll mX4_readsAll 1 := ⟨TB_t 1151 (by decide +kernel) (by decide +kernel), TB_t 5 (by decide +kernel) (by decide +kernel), by decide +kernel, by decide +kernel, by decide +kernel, by decide⟩
theorem kv_X4_272 : GV RX4 272 yX4_readsAll mX4_readsAll 1 := ⟨kc_X4_readsAll, TB_t 1148 (by decide +kernel) (by decide +kernel), TB_t 1150 (by decide +kernel) (by decide +kernel), TB_p 61 (by decide +kernel) (by decide +kernel)⟩
theorem kv_X4_54 : GV RX4 54 yX4_first mX4_first 0 := ⟨kc_X4_first, TB_t 777 (by decide +kernel) (by decide +kernel), TB_t 779 (by decide +kernel) (by decide +kernel), TB_p 31 (by decide +kernel) (by decide +kernel)⟩
theorem kp_X4_276 : GP RX4 276 4 15 .int := ⟨RX4, TX4, 26, tyX4, rfl, iX4, by decide, TB_t 801 (by decide +kernel) (by decide +kernel), tyX4_ok, nmX4, by decide +kernel, by decide +kernel⟩
theorem kc_X4_moor : GC yX4_moor mX4_moor 0 := ⟨TB_t 1147 (by decide +kernel) (by decide +kernel), TB_t 5 (by decide +kernel) (by decide +kernel), by decide +kernel, by decide +kernel, by decide +kernel, by decide⟩
theorem kc_X4_mustBe : GC yX4_mustBe mX4_mustBe 2 := ⟨TB_t 1197 (by decide +kernel) (by decide +kernel), TB_t 5 (by decide +kernel) (by decide +kernel), by decide +kernel, by decide +kernel, by decide +kernel, by decide⟩
theorem kf_X4_29 : GF RX4 29 4 14 := ⟨RX4, TX4, 26, rfl, iX4, by decide, TB_t 800 (by decide +kernel) (by decide +kernel)⟩
theorem kv_X4_279 : GV RX4 279 yX4_mustBe mX4_mustBe 2 := ⟨kc_X4_mustBe, TB_t 1194 (by decide +kernel) (by decide +kernel), TB_t 1196 (by decide +kernel) (by decide +kernel), TB_p 71 (by decide +kernel) (by decide +kernel)⟩
theorem kc_X4_prove : GC yX4_prove mX4_prove 2 := ⟨TB_t 1193 (by decide +kernel) (by decide +kernel), TB_t 5 (by decide +kernel) (by decide +kernel), by decide +kernel, by decide +kernel, by decide +kernel, by decide⟩
theorem kf_X4_276 : GF RX4 276 4 15 := ⟨RX4, TX4, 26, rfl, iX4, by decide, TB_t 801 (by decide +kernel) (by decide +kernel)⟩
theorem kc_X4_row : GC yX4_row mX4_row 2 := ⟨TB_t 1201 (by decide +kernel) (by decide +kernel), TB_t 5 (by decide +kernel) (by decide +kernel), by decide +kernel, by decide +kernel, by decide +kernel, by decide⟩
theorem kc_X4_alterRow : GC yX4_alterRow mX4_alterRow 3 := ⟨TB_t 1205 (by decide +kernel) (by decide +kernel), TB_t 5 (by decide +kernel) (by decide +kernel), by decide +kernel, by decide +kernel, by decide +kernel, by decide⟩
theorem kc_X4_judge : GC yX4_judge mX4_judge 1 := ⟨TB_t 1209 (by decide +kernel) (by decide +kernel), TB_t 5 (by decide +kernel) (by decide +kernel), by decide +kernel, by decide +kernel, by decide +kernel, by decide⟩
theorem kc_X4_minds : GC yX4_minds mX4_minds 4 := ⟨TB_t 1213 (by decide +kernel) (by decide +kernel), TB_t 5 (by decide +kernel) (by decide +kernel), by decide +kernel, by decide +kernel, by decide +kernel, by decide⟩
theorem kc_X4_sheet : GC yX4_sheet mX4_sheet 3 := ⟨TB_t 1217 (by decide +kernel) (by decide +kernel), TB_t 5 (by decide +kernel) (by decide +kernel), by decide +kernel, by decide +kernel, by decide +kernel, by decide⟩
theorem kc_X4_put : GC yX4_put mX4_put 3 := ⟨TB_t 1221 (by decide +kernel) (by decide +kernel), TB_t 5 (by decide +kernel) (by decide +kernel), by decide +kernel, by decide +kernel, by decide +kernel, by decide⟩
theorem kc_X4_item : GC yX4_item mX4_item 3 := ⟨TB_t 1225 (by decide +kernel) (by decide +kernel), TB_t 5 (by decide +kernel) (by decide +kernel), by decide +kernel, by decide +kernel, by decide +kernel, by decide⟩
theorem kf_X4_42 : GF RX4 42 4 19 := ⟨RX4, TX4, 26, rfl, iX4, by decide, TB_t 805 (by decide +kernel) (by decide +kernel)⟩
theorem kf_X4_45 : GF RX4 45 4 20 := ⟨RX4, TX4, 26, rfl, iX4, by decide, TB_t 806 (by decide +kernel) (by decide +kernel)⟩
theorem kf_X4_48 : GF RX4 48 4 21 := ⟨RX4, TX4, 26, rfl, iX4, by decide, TB_t 807 (by decide +kernel) (by decide +kernel)⟩
theorem kc_X4_shelf : GC yX4_shelf mX4_shelf 3 := ⟨TB_t 1229 (by decide +kernel) (by decide +kernel), TB_t 5 (by decide +kernel) (by decide +kernel), by decide +kernel, by decide +kernel, by decide +kernel, by decide⟩
theorem kc_X4_holdsNothing : GC yX4_holdsNothing mX4_holdsNothing 1 := ⟨TB_t 1238 (by decide +kernel) (by decide +kernel), TB_t 5 (by decide +kernel) (by decide +kernel), by decide +kernel, by decide +kernel, by decide +kernel, by decide⟩
theorem kc_X4_above : GC yX4_above mX4_above 1 := ⟨TB_t 1241 (by decide +kernel) (by decide +kernel), TB_t 5 (by decide +kernel) (by decide +kernel), by decide +kernel, by decide +kernel, by decide +kernel, by decide⟩
theorem kv_X4_284 : GV RX4 284 yX4_holdsNothing mX4_holdsNothing 1 := ⟨kc_X4_holdsNothing, TB_t 1235 (by decide +kernel) (by decide +kernel), TB_t 1237 (by decide +kernel) (by decide +kernel), TB_p 72 (by decide +kernel) (by decide +kernel)⟩
theorem kt_X4_287 : GT RX4 287 yX4_above mX4_above 1 := ⟨kc_X4_above, TB_t 1240 (by decide +kernel) (by decide +kernel), Or.inl (TB_t 1239 (by decide +kernel) (by decide +kernel))⟩
theorem kcL_X4_282 : Cond.constantLong RX4 282 (13 : Int64) ∈ TB := TB_t 1234 (by decide +kernel) (by decide +kernel)
theorem kc_X4_taken : GC yX4_taken mX4_taken 2 := ⟨TB_t 1233 (by decide +kernel) (by decide +kernel), TB_t 5 (by decide +kernel) (by decide +kernel), by decide +kernel, by decide +kernel, by decide +kernel, by decide⟩
theorem kf_X4_290 : GF RX4 290 4 23 := ⟨RX4, TX4, 26, rfl, iX4, by decide, TB_t 809 (by decide +kernel) (by decide +kernel)⟩
theorem kf_X4_293 : GF RX4 293 4 25 := ⟨RX4, TX4, 26, rfl, iX4, by decide, TB_t 811 (by decide +kernel) (by decide +kernel)⟩
theorem kf_X4_51 : GF RX4 51 4 22 := ⟨RX4, TX4, 26, rfl, iX4, by decide, TB_t 808 (by decide +kernel) (by decide +kernel)⟩
theorem kp_X4_290 : GP RX4 290 4 23 .int := ⟨RX4, TX4, 26, tyX4, rfl, iX4, by decide, TB_t 809 (by decide +kernel) (by decide +kernel), tyX4_ok, nmX4, by decide +kernel, by decide +kernel⟩
theorem kc_X4_ran : GC yX4_ran mX4_ran 1 := ⟨TB_t 1253 (by decide +kernel) (by decide +kernel), TB_t 5 (by decide +kernel) (by decide +kernel), by decide +kernel, by decide +kernel, by decide +kernel, by decide⟩
theorem kv_X4_297 : GV RX4 297 yX4_ran mX4_ran 1 := ⟨kc_X4_ran, TB_t 1250 (by decide +kernel) (by decide +kernel), TB_t 1252 (by decide +kernel) (by decide +kernel), TB_p 74 (by decide +kernel) (by decide +kernel)⟩
theorem kf_X4_300 : GF RX4 300 4 24 := ⟨RX4, TX4, 26, rfl, iX4, by decide, TB_t 810 (by decide +kernel) (by decide +kernel)⟩
theorem kc_X4_swearsBy : GC yX4_swearsBy mX4_swearsBy 2 := ⟨TB_t 1249 (by decide +kernel) (by decide +kernel), TB_t 5 (by decide +kernel) (by decide +kernel), by decide +kernel, by decide +kernel, by decide +kernel, by decide⟩
theorem kv_X4_303 : GV RX4 303 yX4_swearsBy mX4_swearsBy 2 := ⟨kc_X4_swearsBy, TB_t 1246 (by decide +kernel) (by decide +kernel), TB_t 1248 (by decide +kernel) (by decide +kernel), TB_p 73 (by decide +kernel) (by decide +kernel)⟩
theorem kc_X4_doubtsBy : GC yX4_doubtsBy mX4_doubtsBy 2 := ⟨TB_t 1257 (by decide +kernel) (by decide +kernel), TB_t 5 (by decide +kernel) (by decide +kernel), by decide +kernel, by decide +kernel, by decide +kernel, by decide⟩
theorem kv_X4_306 : GV RX4 306 yX4_doubtsBy mX4_doubtsBy 2 := ⟨kc_X4_doubtsBy, TB_t 1254 (by decide +kernel) (by decide +kernel), TB_t 1256 (by decide +kernel) (by decide +kernel), TB_p 75 (by decide +kernel) (by decide +kernel)⟩
theorem kp_X4_293 : GP RX4 293 4 25 .boolean := ⟨RX4, TX4, 26, tyX4, rfl, iX4, by decide, TB_t 811 (by decide +kernel) (by decide +kernel), tyX4_ok, nmX4, by decide +kernel, by decide +kernel⟩
theorem kc_X4_partsBy : GC yX4_partsBy mX4_partsBy 2 := ⟨TB_t 1261 (by decide +kernel) (by decide +kernel), TB_t 5 (by decide +kernel) (by decide +kernel), by decide +kernel, by decide +kernel, by decide +kernel, by decide⟩
theorem kv_X4_309 : GV RX4 309 yX4_partsBy mX4_partsBy 2 := ⟨kc_X4_partsBy, TB_t 1258 (by decide +kernel) (by decide +kernel), TB_t 1260 (by decide +kernel) (by decide +kernel), TB_p 76 (by decide +kernel) (by decide +kernel)⟩
theorem kc_X4_signsBy : GC yX4_signsBy mX4_signsBy 2 := ⟨TB_t 1265 (by decide +kernel) (by decide +kernel), TB_t 5 (by decide +kernel) (by decide +kernel), by decide +kernel, by decide +kernel, by decide +kernel, by decide⟩
theorem kv_X4_312 : GV RX4 312 yX4_signsBy mX4_signsBy 2 := ⟨kc_X4_signsBy, TB_t 1262 (by decide +kernel) (by decide +kernel), TB_t 1264 (by decide +kernel) (by decide +kernel), TB_p 77 (by decide +kernel) (by decide +kernel)⟩
theorem kp_X4_300 : GP RX4 300 4 24 .int := ⟨RX4, TX4, 26, tyX4, rfl, iX4, by decide, TB_t 810 (by decide +kernel) (by decide +kernel), tyX4_ok, nmX4, by decide +kernel, by decide +kernel⟩
theorem kc_X4_act : GC yX4_act mX4_act 3 := ⟨TB_t 1245 (by decide +kernel) (by decide +kernel), TB_t 5 (by decide +kernel) (by decide +kernel), by decide +kernel, by decide +kernel, by decide +kernel, by decide⟩
theorem kc_X4_trace : GC yX4_trace mX4_trace 1 := ⟨TB_t 1269 (by decide +kernel) (by decide +kernel), TB_t 5 (by decide +kernel) (by decide +kernel), by decide +kernel, by decide +kernel, by decide +kernel, by decide⟩
theorem kc_X4_many : GC yX4_many mX4_many 1 := ⟨TB_t 1273 (by decide +kernel) (by decide +kernel), TB_t 5 (by decide +kernel) (by decide +kernel), by decide +kernel, by decide +kernel, by decide +kernel, by decide⟩
theorem kf_X4_13 : GF RX4 13 4 1 := ⟨RX4, TX4, 26, rfl, iX4, by decide, TB_t 787 (by decide +kernel) (by decide +kernel)⟩
theorem kp_X4_315 : GP RX4 315 4 3 .boolean := ⟨RX4, TX4, 26, tyX4, rfl, iX4, by decide, TB_t 789 (by decide +kernel) (by decide +kernel), tyX4_ok, nmX4, by decide +kernel, by decide +kernel⟩
theorem kc_X4_keep : GC yX4_keep mX4_keep 0 := ⟨TB_t 1277 (by decide +kernel) (by decide +kernel), TB_t 5 (by decide +kernel) (by decide +kernel), by decide +kernel, by decide +kernel, by decide +kernel, by decide⟩
theorem kf_X4_315 : GF RX4 315 4 3 := ⟨RX4, TX4, 26, rfl, iX4, by decide, TB_t 789 (by decide +kernel) (by decide +kernel)⟩
theorem kc_X4_again : GC yX4_again mX4_again 0 := ⟨TB_t 1281 (by decide +kernel) (by decide +kernel), TB_t 5 (by decide +kernel) (by decide +kernel), by decide +kernel, by decide +kernel, by decide +kernel, by decide⟩
theorem kc_J0_coder_7d493 : GC yJ0_coder_7d493 mJ0_coder_7d493 0 := ⟨TB_t 232 (by decide +kernel) (by decide +kernel), TB_t 6 (by decide +kernel) (by decide +kernel), by decide +kernel, by decide +kernel, by decide +kernel, by decide⟩
theorem kv_J0_335 : GV RJ0 335 yJ0_coder_7d493 mJ0_coder_7d493 0 := ⟨kc_J0_coder_7d493, TB_t 229 (by decide +kernel) (by decide +kernel), TB_t 230 (by decide +kernel) (by decide +kernel), TB_t 231 (by decide +kernel) (by decide +kernel)⟩
theorem kc_J0_isLatin1_aae02 : GC yJ0_isLatin1_aae02 mJ0_isLatin1_aae02 0 := ⟨TB_t 246 (by decide +kernel) (by decide +kernel), TB_t 6 (by decide +kernel) (by decide +kernel), by decide +kernel, by decide +kernel, by decide +kernel, by decide⟩
theorem kv_J0_492 : GV RJ0 492 yJ0_isLatin1_aae02 mJ0_isLatin1_aae02 0 := ⟨kc_J0_isLatin1_aae02, TB_t 243 (by decide +kernel) (by decide +kernel), TB_t 244 (by decide +kernel) (by decide +kernel), TB_t 245 (by decide +kernel) (by decide +kernel)⟩
theorem kc_J1_charAt_3b067 : GC yJ1_charAt_3b067 mJ1_charAt_3b067 2 := ⟨TB_t 249 (by decide +kernel) (by decide +kernel), TB_t 7 (by decide +kernel) (by decide +kernel), by decide +kernel, by decide +kernel, by decide +kernel, by decide⟩
theorem kt_J0_495 : GT RJ0 495 yJ1_charAt_3b067 mJ1_charAt_3b067 2 := ⟨kc_J1_charAt_3b067, TB_t 248 (by decide +kernel) (by decide +kernel), Or.inl (TB_t 247 (by decide +kernel) (by decide +kernel))⟩
theorem kc_J0_checkIndex_df160 : GC yJ0_checkIndex_df160 mJ0_checkIndex_df160 2 := ⟨TB_t 252 (by decide +kernel) (by decide +kernel), TB_t 6 (by decide +kernel) (by decide +kernel), by decide +kernel, by decide +kernel, by decide +kernel, by decide⟩
theorem kt_J1_9 : GT RJ1 9 yJ0_checkIndex_df160 mJ0_checkIndex_df160 2 := ⟨kc_J0_checkIndex_df160, TB_t 251 (by decide +kernel) (by decide +kernel), Or.inl (TB_t 250 (by decide +kernel) (by decide +kernel))⟩
theorem kc_J3_checkIndex_8e157 : GC yJ3_checkIndex_8e157 mJ3_checkIndex_8e157 3 := ⟨TB_t 257 (by decide +kernel) (by decide +kernel), TB_t 8 (by decide +kernel) (by decide +kernel), by decide +kernel, by decide +kernel, by decide +kernel, by decide⟩
theorem kt_J0_1059 : GT RJ0 1059 yJ3_checkIndex_8e157 mJ3_checkIndex_8e157 3 := ⟨kc_J3_checkIndex_8e157, TB_t 256 (by decide +kernel) (by decide +kernel), Or.inl (TB_t 255 (by decide +kernel) (by decide +kernel))⟩
theorem kb_J0_9 : Cond.fieldLink RJ0 9 "java/lang/String" "value" "[B" ∈ TB := TB_t 1283 (by decide +kernel) (by decide +kernel)
theorem kb_J0_15 : Cond.fieldLink RJ0 15 "java/lang/String" "coder" "B" ∈ TB := TB_t 1284 (by decide +kernel) (by decide +kernel)
theorem kb_J0_38 : Cond.fieldLink RJ0 38 "java/lang/String" "COMPACT_STRINGS" "Z" ∈ TB := TB_t 233 (by decide +kernel) (by decide +kernel)
theorem kb_J0_1053 : Cond.fieldLink RJ0 1053 "jdk/internal/util/Preconditions" "SIOOBE_FORMATTER" "Ljava/util/function/BiFunction;" ∈ TB := TB_t 253 (by decide +kernel) (by decide +kernel)
end
section
section VFS
variable {α : Type} {M : MC} {d : Nat} {SH : SHT} {ι : α → Option Value × St} {pc : Nat} {L : List (Nat × Value)} {st : List Value} {σ : St} {o o1 o2 : Option α}
theorem v_none : VF M d SH ι pc L st σ none := fun z h => by cases h
theorem v_gd {b : Bool} (h : b = true → VF M d SH ι pc L st σ o) : VF M d SH ι pc L st σ (gd b o) := by
  cases b with
  | false => exact v_none
  | true => exact h rfl
/-- fewer known locals, in any order -/
theorem v_sub {L' : List (Nat × Value)} (hl : ∀ q ∈ L', q ∈ L) (k : VF M d SH ι pc L' st σ o) : VF M d SH ι pc L st σ o :=
  fun z hz p l e R s m args below meth c E Q cells slots C hc hs F H locs ls hP hS hL => k z hz p l e R s m args below meth c E Q cells slots C hc hs F H locs ls hP hS (lv_less hL hl)
theorem v_topi {x : Int32} {f : Int32 → Option α} (k : ∀ y, VF M d SH ι pc L (.int y :: st) σ (f y)) : VF M d SH ι pc L (.int x :: st) σ (bn x f) := k x
theorem v_topl {x : Int64} {f : Int64 → Option α} (k : ∀ y, VF M d SH ι pc L (.long y :: st) σ (f y)) : VF M d SH ι pc L (.long x :: st) σ (bn x f) := k x
theorem v_st {f : St → Option α} (k : ∀ y, VF M d SH ι pc L st y (f y)) : VF M d SH ι pc L st σ (bn σ f) := k σ

theorem v_iconst {n : Int} {v : Int32} (hd : decode M.2.1 pc = .ok (.iconst n, 1)) (hv : Int32.ofInt n = v) (k : VF M d SH ι (pc + 1) L (.int v :: st) σ o) : VF M d SH ι pc L (st) σ o :=
  fun z hz p l e R s m args below meth c E Q cells slots C hc hs F H locs ls hP hS hL => lv_iconst C.1 C.2.1 hd hv (k z hz p l e R s m args below meth c E Q cells slots C hc hs F H locs ls hP hS hL)
theorem v_bipush {n : Int} {v : Int32} (hd : decode M.2.1 pc = .ok (.bipush n, 2)) (hv : (Int8.ofInt n).toInt32 = v) (k : VF M d SH ι (pc + 2) L (.int v :: st) σ o) : VF M d SH ι pc L (st) σ o :=
  fun z hz p l e R s m args below meth c E Q cells slots C hc hs F H locs ls hP hS hL => lv_bipush C.1 C.2.1 hd hv (k z hz p l e R s m args below meth c E Q cells slots C hc hs F H locs ls hP hS hL)
theorem v_sipush {n : Int} {v : Int32} (hd : decode M.2.1 pc = .ok (.sipush n, 3)) (hv : (Int16.ofInt n).toInt32 = v) (k : VF M d SH ι (pc + 3) L (.int v :: st) σ o) : VF M d SH ι pc L (st) σ o :=
  fun z hz p l e R s m args below meth c E Q cells slots C hc hs F H locs ls hP hS hL => lv_sipush C.1 C.2.1 hd hv (k z hz p l e R s m args below meth c E Q cells slots C hc hs F H locs ls hP hS hL)
theorem v_lconst {n : Fin 2} {v : Int64} (hd : decode M.2.1 pc = .ok (.lconst n, 1)) (hv : Int64.ofNat (n : Nat) = v) (k : VF M d SH ι (pc + 1) L (.long v :: st) σ o) : VF M d SH ι pc L (st) σ o :=
  fun z hz p l e R s m args below meth c E Q cells slots C hc hs F H locs ls hP hS hL => lv_lconst C.1 C.2.1 hd hv (k z hz p l e R s m args below meth c E Q cells slots C hc hs F H locs ls hP hS hL)
theorem v_iload_n {k0 : Fin 4} {i : Nat} {x : Int32} (hd : decode M.2.1 pc = .ok (.iload_n k0, 1)) (hi : (k0 : Nat) = i) (hx : lkp L i = some (.int x)) (k : VF M d SH ι (pc + 1) L (.int x :: st) σ o) : VF M d SH ι pc L (st) σ o :=
  fun z hz p l e R s m args below meth c E Q cells slots C hc hs F H locs ls hP hS hL => lv_iload_n C.1 C.2.1 hd hi (lkp_at hL hx) (k z hz p l e R s m args below meth c E Q cells slots C hc hs F H locs ls hP hS hL)
theorem v_iload {i : Nat} {x : Int32} (hd : decode M.2.1 pc = .ok (.iload i, 2)) (hx : lkp L i = some (.int x)) (k : VF M d SH ι (pc + 2) L (.int x :: st) σ o) : VF M d SH ι pc L (st) σ o :=
  fun z hz p l e R s m args below meth c E Q cells slots C hc hs F H locs ls hP hS hL => lv_iload C.1 C.2.1 hd (lkp_at hL hx) (k z hz p l e R s m args below meth c E Q cells slots C hc hs F H locs ls hP hS hL)
theorem v_lload_n {k0 : Fin 4} {i : Nat} {x : Int64} (hd : decode M.2.1 pc = .ok (.lload_n k0, 1)) (hi : (k0 : Nat) = i) (hx : lkp L i = some (.long x)) (k : VF M d SH ι (pc + 1) L (.long x :: st) σ o) : VF M d SH ι pc L (st) σ o :=
  fun z hz p l e R s m args below meth c E Q cells slots C hc hs F H locs ls hP hS hL => lv_lload_n C.1 C.2.1 hd hi (lkp_at hL hx) (k z hz p l e R s m args below meth c E Q cells slots C hc hs F H locs ls hP hS hL)
theorem v_lload {i : Nat} {x : Int64} (hd : decode M.2.1 pc = .ok (.lload i, 2)) (hx : lkp L i = some (.long x)) (k : VF M d SH ι (pc + 2) L (.long x :: st) σ o) : VF M d SH ι pc L (st) σ o :=
  fun z hz p l e R s m args below meth c E Q cells slots C hc hs F H locs ls hP hS hL => lv_lload C.1 C.2.1 hd (lkp_at hL hx) (k z hz p l e R s m args below meth c E Q cells slots C hc hs F H locs ls hP hS hL)
theorem v_aload_n {k0 : Fin 4} {i : Nat} {x : Nat} (hd : decode M.2.1 pc = .ok (.aload_n k0, 1)) (hi : (k0 : Nat) = i) (hx : lkp L i = some (.ref x)) (k : VF M d SH ι (pc + 1) L (.ref x :: st) σ o) : VF M d SH ι pc L (st) σ o :=
  fun z hz p l e R s m args below meth c E Q cells slots C hc hs F H locs ls hP hS hL => lv_aload_n C.1 C.2.1 hd hi (lkp_at hL hx) (k z hz p l e R s m args below meth c E Q cells slots C hc hs F H locs ls hP hS hL)
theorem v_aload {i : Nat} {x : Nat} (hd : decode M.2.1 pc = .ok (.aload i, 2)) (hx : lkp L i = some (.ref x)) (k : VF M d SH ι (pc + 2) L (.ref x :: st) σ o) : VF M d SH ι pc L (st) σ o :=
  fun z hz p l e R s m args below meth c E Q cells slots C hc hs F H locs ls hP hS hL => lv_aload C.1 C.2.1 hd (lkp_at hL hx) (k z hz p l e R s m args below meth c E Q cells slots C hc hs F H locs ls hP hS hL)
theorem v_istore_n {k0 : Fin 4} {i : Nat} {x : Int32} {L' : List (Nat × Value)} (hd : decode M.2.1 pc = .ok (.istore_n k0, 1)) (hi : (k0 : Nat) = i) (hn : i < M.2.2.1) (hl : lst1 L i (.int x) = L') (k : VF M d SH ι (pc + 1) L' st σ o) : VF M d SH ι pc L (.int x :: st) σ o :=
  fun z hz p l e R s m args below meth c E Q cells slots C hc hs F H locs ls hP hS hL => lv_istore_n C.1 C.2.1 hd hi hL hn ((lst1_cv E L i (.int x)).trans (by rw [hl])) (fun ls' hL' => k z hz p l e R s m args below meth c E Q cells slots C hc hs F H locs ls' hP hS hL')
theorem v_istore {i : Nat} {x : Int32} {L' : List (Nat × Value)} (hd : decode M.2.1 pc = .ok (.istore i, 2)) (hn : i < M.2.2.1) (hl : lst1 L i (.int x) = L') (k : VF M d SH ι (pc + 2) L' st σ o) : VF M d SH ι pc L (.int x :: st) σ o :=
  fun z hz p l e R s m args below meth c E Q cells slots C hc hs F H locs ls hP hS hL => lv_istore C.1 C.2.1 hd hL hn ((lst1_cv E L i (.int x)).trans (by rw [hl])) (fun ls' hL' => k z hz p l e R s m args below meth c E Q cells slots C hc hs F H locs ls' hP hS hL')
theorem v_lstore_n {k0 : Fin 4} {i : Nat} {x : Int64} {L' : List (Nat × Value)} (hd : decode M.2.1 pc = .ok (.lstore_n k0, 1)) (hi : (k0 : Nat) = i) (hn : i + 1 < M.2.2.1) (hl : lst2 L i (.long x) = L') (k : VF M d SH ι (pc + 1) L' st σ o) : VF M d SH ι pc L (.long x :: st) σ o :=
  fun z hz p l e R s m args below meth c E Q cells slots C hc hs F H locs ls hP hS hL => lv_lstore_n C.1 C.2.1 hd hi hL hn ((lst2_cv E L i (.long x)).trans (by rw [hl])) (fun ls' hL' => k z hz p l e R s m args below meth c E Q cells slots C hc hs F H locs ls' hP hS hL')
theorem v_lstore {i : Nat} {x : Int64} {L' : List (Nat × Value)} (hd : decode M.2.1 pc = .ok (.lstore i, 2)) (hn : i + 1 < M.2.2.1) (hl : lst2 L i (.long x) = L') (k : VF M d SH ι (pc + 2) L' st σ o) : VF M d SH ι pc L (.long x :: st) σ o :=
  fun z hz p l e R s m args below meth c E Q cells slots C hc hs F H locs ls hP hS hL => lv_lstore C.1 C.2.1 hd hL hn ((lst2_cv E L i (.long x)).trans (by rw [hl])) (fun ls' hL' => k z hz p l e R s m args below meth c E Q cells slots C hc hs F H locs ls' hP hS hL')
theorem v_astore_n {k0 : Fin 4} {i : Nat} {x : Nat} {L' : List (Nat × Value)} (hd : decode M.2.1 pc = .ok (.astore_n k0, 1)) (hi : (k0 : Nat) = i) (hn : i < M.2.2.1) (hl : lst1 L i (.ref x) = L') (k : VF M d SH ι (pc + 1) L' st σ o) : VF M d SH ι pc L (.ref x :: st) σ o :=
  fun z hz p l e R s m args below meth c E Q cells slots C hc hs F H locs ls hP hS hL => lv_astore_n C.1 C.2.1 hd hi hL hn ((lst1_cv E L i (.ref x)).trans (by rw [hl])) (fun ls' hL' => k z hz p l e R s m args below meth c E Q cells slots C hc hs F H locs ls' hP hS hL')
theorem v_astore {i : Nat} {x : Nat} {L' : List (Nat × Value)} (hd : decode M.2.1 pc = .ok (.astore i, 2)) (hn : i < M.2.2.1) (hl : lst1 L i (.ref x) = L') (k : VF M d SH ι (pc + 2) L' st σ o) : VF M d SH ι pc L (.ref x :: st) σ o :=
  fun z hz p l e R s m args below meth c E Q cells slots C hc hs F H locs ls hP hS hL => lv_astore C.1 C.2.1 hd hL hn ((lst1_cv E L i (.ref x)).trans (by rw [hl])) (fun ls' hL' => k z hz p l e R s m args below meth c E Q cells slots C hc hs F H locs ls' hP hS hL')
theorem v_iinc {i : Nat} {n : Int} {x v : Int32} {L' : List (Nat × Value)} (hd : decode M.2.1 pc = .ok (.iinc i n, 3)) (hx : lkp L i = some (.int x)) (hv : x + Int32.ofInt n = v) (hn : i < M.2.2.1) (hl : lst1 L i (.int v) = L') (k : VF M d SH ι (pc + 3) L' st σ o) : VF M d SH ι pc L st σ o := by
  intro z hz p l e R s m args below meth c E Q cells slots C hc hs F H locs ls hP hS hL
  have hg := lkp_at hL hx
  subst hv
  obtain ⟨ls', e', h'⟩ := lv_store1 (v := .int (x + Int32.ofInt n)) hL hn rfl
  have hL' : lv_has ls' M.2.2.1 (cvL E L') := by
    rw [← hl, ← lst1_cv E L i (.int (x + Int32.ofInt n))]
    exact h'
  have kk := k z hz p l e R s m args below meth c E Q cells slots C hc hs F H locs ls' hP hS hL'
  intro T hT X
  obtain ⟨t, a, b⟩ := kk T hT X
  refine ⟨t, ?_, b⟩
  have hexec := C.1
  have hb := C.2.1
  have hg2 : ls[i]? = some (.val (.int x)) := hg
  jvm_step X.here [X.here.top, ↓top_set X.here.top, hexec, hb, hd, hg2, e']
  exact a
theorem v_iadd {x y : Int32} (hd : decode M.2.1 pc = .ok (.iadd, 1))  (k : VF M d SH ι (pc + 1) L (.int (x + y) :: st) σ o) : VF M d SH ι pc L (.int y :: .int x :: st) σ o :=
  fun z hz p l e R s m args below meth c E Q cells slots C hc hs F H locs ls hP hS hL => lv_iadd C.1 C.2.1 hd  (k z hz p l e R s m args below meth c E Q cells slots C hc hs F H locs ls hP hS hL)
theorem v_isub {x y : Int32} (hd : decode M.2.1 pc = .ok (.isub, 1))  (k : VF M d SH ι (pc + 1) L (.int (x - y) :: st) σ o) : VF M d SH ι pc L (.int y :: .int x :: st) σ o :=
  fun z hz p l e R s m args below meth c E Q cells slots C hc hs F H locs ls hP hS hL => lv_isub C.1 C.2.1 hd  (k z hz p l e R s m args below meth c E Q cells slots C hc hs F H locs ls hP hS hL)
theorem v_imul {x y : Int32} (hd : decode M.2.1 pc = .ok (.imul, 1))  (k : VF M d SH ι (pc + 1) L (.int (x * y) :: st) σ o) : VF M d SH ι pc L (.int y :: .int x :: st) σ o :=
  fun z hz p l e R s m args below meth c E Q cells slots C hc hs F H locs ls hP hS hL => lv_imul C.1 C.2.1 hd  (k z hz p l e R s m args below meth c E Q cells slots C hc hs F H locs ls hP hS hL)
theorem v_iand {x y : Int32} (hd : decode M.2.1 pc = .ok (.iand, 1))  (k : VF M d SH ι (pc + 1) L (.int (x &&& y) :: st) σ o) : VF M d SH ι pc L (.int y :: .int x :: st) σ o :=
  fun z hz p l e R s m args below meth c E Q cells slots C hc hs F H locs ls hP hS hL => lv_iand C.1 C.2.1 hd  (k z hz p l e R s m args below meth c E Q cells slots C hc hs F H locs ls hP hS hL)
theorem v_ior {x y : Int32} (hd : decode M.2.1 pc = .ok (.ior, 1))  (k : VF M d SH ι (pc + 1) L (.int (x ||| y) :: st) σ o) : VF M d SH ι pc L (.int y :: .int x :: st) σ o :=
  fun z hz p l e R s m args below meth c E Q cells slots C hc hs F H locs ls hP hS hL => lv_ior C.1 C.2.1 hd  (k z hz p l e R s m args below meth c E Q cells slots C hc hs F H locs ls hP hS hL)
theorem v_ixor {x y : Int32} (hd : decode M.2.1 pc = .ok (.ixor, 1))  (k : VF M d SH ι (pc + 1) L (.int (x ^^^ y) :: st) σ o) : VF M d SH ι pc L (.int y :: .int x :: st) σ o :=
  fun z hz p l e R s m args below meth c E Q cells slots C hc hs F H locs ls hP hS hL => lv_ixor C.1 C.2.1 hd  (k z hz p l e R s m args below meth c E Q cells slots C hc hs F H locs ls hP hS hL)
theorem v_ladd {x y : Int64} (hd : decode M.2.1 pc = .ok (.ladd, 1))  (k : VF M d SH ι (pc + 1) L (.long (x + y) :: st) σ o) : VF M d SH ι pc L (.long y :: .long x :: st) σ o :=
  fun z hz p l e R s m args below meth c E Q cells slots C hc hs F H locs ls hP hS hL => lv_ladd C.1 C.2.1 hd  (k z hz p l e R s m args below meth c E Q cells slots C hc hs F H locs ls hP hS hL)
theorem v_lsub {x y : Int64} (hd : decode M.2.1 pc = .ok (.lsub, 1))  (k : VF M d SH ι (pc + 1) L (.long (x - y) :: st) σ o) : VF M d SH ι pc L (.long y :: .long x :: st) σ o :=
  fun z hz p l e R s m args below meth c E Q cells slots C hc hs F H locs ls hP hS hL => lv_lsub C.1 C.2.1 hd  (k z hz p l e R s m args below meth c E Q cells slots C hc hs F H locs ls hP hS hL)
theorem v_lmul {x y : Int64} (hd : decode M.2.1 pc = .ok (.lmul, 1))  (k : VF M d SH ι (pc + 1) L (.long (x * y) :: st) σ o) : VF M d SH ι pc L (.long y :: .long x :: st) σ o :=
  fun z hz p l e R s m args below meth c E Q cells slots C hc hs F H locs ls hP hS hL => lv_lmul C.1 C.2.1 hd  (k z hz p l e R s m args below meth c E Q cells slots C hc hs F H locs ls hP hS hL)
theorem v_land {x y : Int64} (hd : decode M.2.1 pc = .ok (.land, 1))  (k : VF M d SH ι (pc + 1) L (.long (x &&& y) :: st) σ o) : VF M d SH ι pc L (.long y :: .long x :: st) σ o :=
  fun z hz p l e R s m args below meth c E Q cells slots C hc hs F H locs ls hP hS hL => lv_land C.1 C.2.1 hd  (k z hz p l e R s m args below meth c E Q cells slots C hc hs F H locs ls hP hS hL)
theorem v_lor {x y : Int64} (hd : decode M.2.1 pc = .ok (.lor, 1))  (k : VF M d SH ι (pc + 1) L (.long (x ||| y) :: st) σ o) : VF M d SH ι pc L (.long y :: .long x :: st) σ o :=
  fun z hz p l e R s m args below meth c E Q cells slots C hc hs F H locs ls hP hS hL => lv_lor C.1 C.2.1 hd  (k z hz p l e R s m args below meth c E Q cells slots C hc hs F H locs ls hP hS hL)
theorem v_lxor {x y : Int64} (hd : decode M.2.1 pc = .ok (.lxor, 1))  (k : VF M d SH ι (pc + 1) L (.long (x ^^^ y) :: st) σ o) : VF M d SH ι pc L (.long y :: .long x :: st) σ o :=
  fun z hz p l e R s m args below meth c E Q cells slots C hc hs F H locs ls hP hS hL => lv_lxor C.1 C.2.1 hd  (k z hz p l e R s m args below meth c E Q cells slots C hc hs F H locs ls hP hS hL)
theorem v_idiv {x y : Int32} (hd : decode M.2.1 pc = .ok (.idiv, 1)) (k : ¬ y = 0 → VF M d SH ι (pc + 1) L (.int (x / y) :: st) σ o) : VF M d SH ι pc L (.int y :: .int x :: st) σ (if y = 0 then none else o) := by
  intro z hz p l e R s m args below meth c E Q cells slots C hc hs F H locs ls hP hS hL
  by_cases h : y = 0
  · rw [if_pos h] at hz; cases hz
  · rw [if_neg h] at hz
    exact lv_idiv C.1 C.2.1 hd h (k h z hz p l e R s m args below meth c E Q cells slots C hc hs F H locs ls hP hS hL)
theorem v_idiv' {x y : Int32} (hd : decode M.2.1 pc = .ok (.idiv, 1)) (h : ¬ y = 0) (k : VF M d SH ι (pc + 1) L (.int (x / y) :: st) σ o) : VF M d SH ι pc L (.int y :: .int x :: st) σ o :=
  fun z hz p l e R s m args below meth c E Q cells slots C hc hs F H locs ls hP hS hL => lv_idiv C.1 C.2.1 hd h (k z hz p l e R s m args below meth c E Q cells slots C hc hs F H locs ls hP hS hL)
theorem v_irem {x y : Int32} (hd : decode M.2.1 pc = .ok (.irem, 1)) (k : ¬ y = 0 → VF M d SH ι (pc + 1) L (.int (x - x / y * y) :: st) σ o) : VF M d SH ι pc L (.int y :: .int x :: st) σ (if y = 0 then none else o) := by
  intro z hz p l e R s m args below meth c E Q cells slots C hc hs F H locs ls hP hS hL
  by_cases h : y = 0
  · rw [if_pos h] at hz; cases hz
  · rw [if_neg h] at hz
    exact lv_irem C.1 C.2.1 hd h (k h z hz p l e R s m args below meth c E Q cells slots C hc hs F H locs ls hP hS hL)
theorem v_irem' {x y : Int32} (hd : decode M.2.1 pc = .ok (.irem, 1)) (h : ¬ y = 0) (k : VF M d SH ι (pc + 1) L (.int (x - x / y * y) :: st) σ o) : VF M d SH ι pc L (.int y :: .int x :: st) σ o :=
  fun z hz p l e R s m args below meth c E Q cells slots C hc hs F H locs ls hP hS hL => lv_irem C.1 C.2.1 hd h (k z hz p l e R s m args below meth c E Q cells slots C hc hs F H locs ls hP hS hL)
theorem v_ldiv {x y : Int64} (hd : decode M.2.1 pc = .ok (.ldiv, 1)) (k : ¬ y = 0 → VF M d SH ι (pc + 1) L (.long (x / y) :: st) σ o) : VF M d SH ι pc L (.long y :: .long x :: st) σ (if y = 0 then none else o) := by
  intro z hz p l e R s m args below meth c E Q cells slots C hc hs F H locs ls hP hS hL
  by_cases h : y = 0
  · rw [if_pos h] at hz; cases hz
  · rw [if_neg h] at hz
    exact lv_ldiv C.1 C.2.1 hd h (k h z hz p l e R s m args below meth c E Q cells slots C hc hs F H locs ls hP hS hL)
theorem v_ldiv' {x y : Int64} (hd : decode M.2.1 pc = .ok (.ldiv, 1)) (h : ¬ y = 0) (k : VF M d SH ι (pc + 1) L (.long (x / y) :: st) σ o) : VF M d SH ι pc L (.long y :: .long x :: st) σ o :=
  fun z hz p l e R s m args below meth c E Q cells slots C hc hs F H locs ls hP hS hL => lv_ldiv C.1 C.2.1 hd h (k z hz p l e R s m args below meth c E Q cells slots C hc hs F H locs ls hP hS hL)
theorem v_lrem {x y : Int64} (hd : decode M.2.1 pc = .ok (.lrem, 1)) (k : ¬ y = 0 → VF M d SH ι (pc + 1) L (.long (x - x / y * y) :: st) σ o) : VF M d SH ι pc L (.long y :: .long x :: st) σ (if y = 0 then none else o) := by
  intro z hz p l e R s m args below meth c E Q cells slots C hc hs F H locs ls hP hS hL
  by_cases h : y = 0
  · rw [if_pos h] at hz; cases hz
  · rw [if_neg h] at hz
    exact lv_lrem C.1 C.2.1 hd h (k h z hz p l e R s m args below meth c E Q cells slots C hc hs F H locs ls hP hS hL)
theorem v_lrem' {x y : Int64} (hd : decode M.2.1 pc = .ok (.lrem, 1)) (h : ¬ y = 0) (k : VF M d SH ι (pc + 1) L (.long (x - x / y * y) :: st) σ o) : VF M d SH ι pc L (.long y :: .long x :: st) σ o :=
  fun z hz p l e R s m args below meth c E Q cells slots C hc hs F H locs ls hP hS hL => lv_lrem C.1 C.2.1 hd h (k z hz p l e R s m args below meth c E Q cells slots C hc hs F H locs ls hP hS hL)
theorem v_ineg {x : Int32} (hd : decode M.2.1 pc = .ok (.ineg, 1))  (k : VF M d SH ι (pc + 1) L (.int (-x) :: st) σ o) : VF M d SH ι pc L (.int x :: st) σ o :=
  fun z hz p l e R s m args below meth c E Q cells slots C hc hs F H locs ls hP hS hL => lv_ineg C.1 C.2.1 hd  (k z hz p l e R s m args below meth c E Q cells slots C hc hs F H locs ls hP hS hL)
theorem v_ishl {x y : Int32} (hd : decode M.2.1 pc = .ok (.ishl, 1))  (k : VF M d SH ι (pc + 1) L (.int (x <<< (y &&& 31)) :: st) σ o) : VF M d SH ι pc L (.int y :: .int x :: st) σ o :=
  fun z hz p l e R s m args below meth c E Q cells slots C hc hs F H locs ls hP hS hL => lv_ishl C.1 C.2.1 hd  (k z hz p l e R s m args below meth c E Q cells slots C hc hs F H locs ls hP hS hL)
theorem v_ishr {x y : Int32} (hd : decode M.2.1 pc = .ok (.ishr, 1))  (k : VF M d SH ι (pc + 1) L (.int (x >>> (y &&& 31)) :: st) σ o) : VF M d SH ι pc L (.int y :: .int x :: st) σ o :=
  fun z hz p l e R s m args below meth c E Q cells slots C hc hs F H locs ls hP hS hL => lv_ishr C.1 C.2.1 hd  (k z hz p l e R s m args below meth c E Q cells slots C hc hs F H locs ls hP hS hL)
theorem v_iushr {x y : Int32} (hd : decode M.2.1 pc = .ok (.iushr, 1))  (k : VF M d SH ι (pc + 1) L (.int ((x.toUInt32 >>> (y.toUInt32 &&& Int32.toUInt32 31)).toInt32) :: st) σ o) : VF M d SH ι pc L (.int y :: .int x :: st) σ o :=
  fun z hz p l e R s m args below meth c E Q cells slots C hc hs F H locs ls hP hS hL => lv_iushr C.1 C.2.1 hd rfl (k z hz p l e R s m args below meth c E Q cells slots C hc hs F H locs ls hP hS hL)
theorem v_lushr {x : Int64} {y : Int32} (hd : decode M.2.1 pc = .ok (.lushr, 1))  (k : VF M d SH ι (pc + 1) L (.long ((x.toUInt64 >>> (y.toInt64.toUInt64 &&& Int64.toUInt64 63)).toInt64) :: st) σ o) : VF M d SH ι pc L (.int y :: .long x :: st) σ o :=
  fun z hz p l e R s m args below meth c E Q cells slots C hc hs F H locs ls hP hS hL => lv_lushr C.1 C.2.1 hd rfl (k z hz p l e R s m args below meth c E Q cells slots C hc hs F H locs ls hP hS hL)
theorem v_lshl {x : Int64} {y : Int32} (hd : decode M.2.1 pc = .ok (.lshl, 1))  (k : VF M d SH ι (pc + 1) L (.long (x <<< (y.toInt64 &&& 63)) :: st) σ o) : VF M d SH ι pc L (.int y :: .long x :: st) σ o :=
  fun z hz p l e R s m args below meth c E Q cells slots C hc hs F H locs ls hP hS hL => lv_lshl C.1 C.2.1 hd rfl (k z hz p l e R s m args below meth c E Q cells slots C hc hs F H locs ls hP hS hL)
theorem v_lshr {x : Int64} {y : Int32} (hd : decode M.2.1 pc = .ok (.lshr, 1))  (k : VF M d SH ι (pc + 1) L (.long (x >>> (y.toInt64 &&& 63)) :: st) σ o) : VF M d SH ι pc L (.int y :: .long x :: st) σ o :=
  fun z hz p l e R s m args below meth c E Q cells slots C hc hs F H locs ls hP hS hL => lv_lshr C.1 C.2.1 hd rfl (k z hz p l e R s m args below meth c E Q cells slots C hc hs F H locs ls hP hS hL)
theorem v_i2l {x : Int32} (hd : decode M.2.1 pc = .ok (.i2l, 1))  (k : VF M d SH ι (pc + 1) L (.long x.toInt64 :: st) σ o) : VF M d SH ι pc L (.int x :: st) σ o :=
  fun z hz p l e R s m args below meth c E Q cells slots C hc hs F H locs ls hP hS hL => lv_i2l C.1 C.2.1 hd rfl (k z hz p l e R s m args below meth c E Q cells slots C hc hs F H locs ls hP hS hL)
theorem v_l2i {x : Int64} (hd : decode M.2.1 pc = .ok (.l2i, 1))  (k : VF M d SH ι (pc + 1) L (.int x.toInt32 :: st) σ o) : VF M d SH ι pc L (.long x :: st) σ o :=
  fun z hz p l e R s m args below meth c E Q cells slots C hc hs F H locs ls hP hS hL => lv_l2i C.1 C.2.1 hd rfl (k z hz p l e R s m args below meth c E Q cells slots C hc hs F H locs ls hP hS hL)
theorem v_i2b {x : Int32} (hd : decode M.2.1 pc = .ok (.i2b, 1))  (k : VF M d SH ι (pc + 1) L (.int x.toInt8.toInt32 :: st) σ o) : VF M d SH ι pc L (.int x :: st) σ o :=
  fun z hz p l e R s m args below meth c E Q cells slots C hc hs F H locs ls hP hS hL => lv_i2b C.1 C.2.1 hd rfl (k z hz p l e R s m args below meth c E Q cells slots C hc hs F H locs ls hP hS hL)
theorem v_i2s {x : Int32} (hd : decode M.2.1 pc = .ok (.i2s, 1))  (k : VF M d SH ι (pc + 1) L (.int x.toInt16.toInt32 :: st) σ o) : VF M d SH ι pc L (.int x :: st) σ o :=
  fun z hz p l e R s m args below meth c E Q cells slots C hc hs F H locs ls hP hS hL => lv_i2s C.1 C.2.1 hd rfl (k z hz p l e R s m args below meth c E Q cells slots C hc hs F H locs ls hP hS hL)
theorem v_i2c {x : Int32} (hd : decode M.2.1 pc = .ok (.i2c, 1))  (k : VF M d SH ι (pc + 1) L (.int (x.toUInt32 % 65536).toInt32 :: st) σ o) : VF M d SH ι pc L (.int x :: st) σ o :=
  fun z hz p l e R s m args below meth c E Q cells slots C hc hs F H locs ls hP hS hL => lv_i2c C.1 C.2.1 hd rfl (k z hz p l e R s m args below meth c E Q cells slots C hc hs F H locs ls hP hS hL)
theorem v_dup {v : Value} (hd : decode M.2.1 pc = .ok (.dup, 1)) (hv : v.category = 1) (k : VF M d SH ι (pc + 1) L (v :: v :: st) σ o) : VF M d SH ι pc L (v :: st) σ o :=
  fun z hz p l e R s m args below meth c E Q cells slots C hc hs F H locs ls hP hS hL => lv_dup C.1 C.2.1 hd ((cv_cat E v).trans hv) (k z hz p l e R s m args below meth c E Q cells slots C hc hs F H locs ls hP hS hL)
theorem v_dup_x1 {v w : Value} (hd : decode M.2.1 pc = .ok (.dup_x1, 1)) (hv : v.category = 1) (hw : w.category = 1) (k : VF M d SH ι (pc + 1) L (v :: w :: v :: st) σ o) : VF M d SH ι pc L (v :: w :: st) σ o :=
  fun z hz p l e R s m args below meth c E Q cells slots C hc hs F H locs ls hP hS hL => lv_dup_x1 C.1 C.2.1 hd ((cv_cat E v).trans hv) ((cv_cat E w).trans hw) (k z hz p l e R s m args below meth c E Q cells slots C hc hs F H locs ls hP hS hL)
theorem v_dup_x2 {v w u : Value} (hd : decode M.2.1 pc = .ok (.dup_x2, 1)) (hv : v.category = 1) (hw : w.category = 1) (hu : u.category = 1) (k : VF M d SH ι (pc + 1) L (v :: w :: u :: v :: st) σ o) : VF M d SH ι pc L (v :: w :: u :: st) σ o :=
  fun z hz p l e R s m args below meth c E Q cells slots C hc hs F H locs ls hP hS hL => lv_dup_x2 C.1 C.2.1 hd ((cv_cat E v).trans hv) ((cv_cat E w).trans hw) ((cv_cat E u).trans hu) (k z hz p l e R s m args below meth c E Q cells slots C hc hs F H locs ls hP hS hL)
theorem v_dup2 {v w : Value} (hd : decode M.2.1 pc = .ok (.dup2, 1)) (hv : v.category = 1) (hw : w.category = 1) (k : VF M d SH ι (pc + 1) L (v :: w :: v :: w :: st) σ o) : VF M d SH ι pc L (v :: w :: st) σ o :=
  fun z hz p l e R s m args below meth c E Q cells slots C hc hs F H locs ls hP hS hL => lv_dup2_11 C.1 C.2.1 hd ((cv_cat E v).trans hv) ((cv_cat E w).trans hw) (k z hz p l e R s m args below meth c E Q cells slots C hc hs F H locs ls hP hS hL)
theorem v_pop {v : Value} (hd : decode M.2.1 pc = .ok (.pop, 1)) (hv : v.category = 1) (k : VF M d SH ι (pc + 1) L (st) σ o) : VF M d SH ι pc L (v :: st) σ o :=
  fun z hz p l e R s m args below meth c E Q cells slots C hc hs F H locs ls hP hS hL => lv_pop C.1 C.2.1 hd ((cv_cat E v).trans hv) (k z hz p l e R s m args below meth c E Q cells slots C hc hs F H locs ls hP hS hL)
theorem v_goto {off : Int} {tgt : Nat} (hd : decode M.2.1 pc = .ok (.goto off, 3)) (ht : (pc : Int) + off = (tgt : Int)) (k : VF M d SH ι tgt L st σ o) : VF M d SH ι pc L st σ o :=
  fun z hz p l e R s m args below meth c E Q cells slots C hc hs F H locs ls hP hS hL => lv_goto C.1 C.2.1 hd ht (k z hz p l e R s m args below meth c E Q cells slots C hc hs F H locs ls hP hS hL)
theorem v_lcmp {x y : Int64} (hd : decode M.2.1 pc = .ok (.lcmp, 1)) (k : VF M d SH ι (pc + 1) L (.int (lg_cmp x y) :: st) σ o) : VF M d SH ι pc L (.long y :: .long x :: st) σ o :=
  fun z hz p l e R s m args below meth c E Q cells slots C hc hs F H locs ls hP hS hL => W.lcmp C.1 C.2.1 hd (k z hz p l e R s m args below meth c E Q cells slots C hc hs F H locs ls hP hS hL)
theorem v_if_eq {x : Int32} {off : Int} {tgt : Nat} (hd : decode M.2.1 pc = .ok (.ifCond .eq off, 3)) (ht : (pc : Int) + off = (tgt : Int)) (kt : x = 0 → VF M d SH ι tgt L st σ o1) (kf : ¬ x = 0 → VF M d SH ι (pc + 3) L st σ o2) : VF M d SH ι pc L (.int x :: st) σ (if x = 0 then o1 else o2) := by
  intro z hz p l e R s m args below meth c E Q cells slots C hc hs F H locs ls hP hS hL
  exact lv_if_eq C.1 C.2.1 hd ht (fun h => kt h z (by rw [if_pos h] at hz; exact hz) p l e R s m args below meth c E Q cells slots C hc hs F H locs ls hP hS hL) (fun h => kf h z (by rw [if_neg h] at hz; exact hz) p l e R s m args below meth c E Q cells slots C hc hs F H locs ls hP hS hL)
theorem v_if_eqJ {x : Int32} {off : Int} {tgt : Nat} {β : Type} {a1 a2 : Option β} {K : β → Option α} (hd : decode M.2.1 pc = .ok (.ifCond .eq off, 3)) (ht : (pc : Int) + off = (tgt : Int)) (kt : x = 0 → VF M d SH ι tgt L st σ (Option.bind a1 K)) (kf : ¬ x = 0 → VF M d SH ι (pc + 3) L st σ (Option.bind a2 K)) : VF M d SH ι pc L (.int x :: st) σ (Option.bind (if x = 0 then a1 else a2) K) := by
  have e : (Option.bind (if x = 0 then a1 else a2) K) = (if x = 0 then (Option.bind a1 K) else (Option.bind a2 K)) := by split <;> rfl
  rw [e]
  exact v_if_eq hd ht kt kf
theorem v_icmp_eq {x y : Int32} {off : Int} {tgt : Nat} (hd : decode M.2.1 pc = .ok (.if_icmp .eq off, 3)) (ht : (pc : Int) + off = (tgt : Int)) (kt : x = y → VF M d SH ι tgt L st σ o1) (kf : ¬ x = y → VF M d SH ι (pc + 3) L st σ o2) : VF M d SH ι pc L (.int y :: .int x :: st) σ (if x = y then o1 else o2) := by
  intro z hz p l e R s m args below meth c E Q cells slots C hc hs F H locs ls hP hS hL
  exact lv_icmp_eq C.1 C.2.1 hd ht (fun h => kt h z (by rw [if_pos h] at hz; exact hz) p l e R s m args below meth c E Q cells slots C hc hs F H locs ls hP hS hL) (fun h => kf h z (by rw [if_neg h] at hz; exact hz) p l e R s m args below meth c E Q cells slots C hc hs F H locs ls hP hS hL)
theorem v_icmp_eqJ {x y : Int32} {off : Int} {tgt : Nat} {β : Type} {a1 a2 : Option β} {K : β → Option α} (hd : decode M.2.1 pc = .ok (.if_icmp .eq off, 3)) (ht : (pc : Int) + off = (tgt : Int)) (kt : x = y → VF M d SH ι tgt L st σ (Option.bind a1 K)) (kf : ¬ x = y → VF M d SH ι (pc + 3) L st σ (Option.bind a2 K)) : VF M d SH ι pc L (.int y :: .int x :: st) σ (Option.bind (if x = y then a1 else a2) K) := by
  have e : (Option.bind (if x = y then a1 else a2) K) = (if x = y then (Option.bind a1 K) else (Option.bind a2 K)) := by split <;> rfl
  rw [e]
  exact v_icmp_eq hd ht kt kf
theorem v_if_ne {x : Int32} {off : Int} {tgt : Nat} (hd : decode M.2.1 pc = .ok (.ifCond .ne off, 3)) (ht : (pc : Int) + off = (tgt : Int)) (kt : ¬ x = 0 → VF M d SH ι tgt L st σ o1) (kf : x = 0 → VF M d SH ι (pc + 3) L st σ o2) : VF M d SH ι pc L (.int x :: st) σ (if x = 0 then o2 else o1) := by
  intro z hz p l e R s m args below meth c E Q cells slots C hc hs F H locs ls hP hS hL
  exact lv_if_ne C.1 C.2.1 hd ht (fun h => kt h z (by rw [if_neg h] at hz; exact hz) p l e R s m args below meth c E Q cells slots C hc hs F H locs ls hP hS hL) (fun h => kf h z (by rw [if_pos h] at hz; exact hz) p l e R s m args below meth c E Q cells slots C hc hs F H locs ls hP hS hL)
theorem v_if_neJ {x : Int32} {off : Int} {tgt : Nat} {β : Type} {a1 a2 : Option β} {K : β → Option α} (hd : decode M.2.1 pc = .ok (.ifCond .ne off, 3)) (ht : (pc : Int) + off = (tgt : Int)) (kt : ¬ x = 0 → VF M d SH ι tgt L st σ (Option.bind a1 K)) (kf : x = 0 → VF M d SH ι (pc + 3) L st σ (Option.bind a2 K)) : VF M d SH ι pc L (.int x :: st) σ (Option.bind (if x = 0 then a2 else a1) K) := by
  have e : (Option.bind (if x = 0 then a2 else a1) K) = (if x = 0 then (Option.bind a2 K) else (Option.bind a1 K)) := by split <;> rfl
  rw [e]
  exact v_if_ne hd ht kt kf
theorem v_icmp_ne {x y : Int32} {off : Int} {tgt : Nat} (hd : decode M.2.1 pc = .ok (.if_icmp .ne off, 3)) (ht : (pc : Int) + off = (tgt : Int)) (kt : ¬ x = y → VF M d SH ι tgt L st σ o1) (kf : x = y → VF M d SH ι (pc + 3) L st σ o2) : VF M d SH ι pc L (.int y :: .int x :: st) σ (if x = y then o2 else o1) := by
  intro z hz p l e R s m args below meth c E Q cells slots C hc hs F H locs ls hP hS hL
  exact lv_icmp_ne C.1 C.2.1 hd ht (fun h => kt h z (by rw [if_neg h] at hz; exact hz) p l e R s m args below meth c E Q cells slots C hc hs F H locs ls hP hS hL) (fun h => kf h z (by rw [if_pos h] at hz; exact hz) p l e R s m args below meth c E Q cells slots C hc hs F H locs ls hP hS hL)
theorem v_icmp_neJ {x y : Int32} {off : Int} {tgt : Nat} {β : Type} {a1 a2 : Option β} {K : β → Option α} (hd : decode M.2.1 pc = .ok (.if_icmp .ne off, 3)) (ht : (pc : Int) + off = (tgt : Int)) (kt : ¬ x = y → VF M d SH ι tgt L st σ (Option.bind a1 K)) (kf : x = y → VF M d SH ι (pc + 3) L st σ (Option.bind a2 K)) : VF M d SH ι pc L (.int y :: .int x :: st) σ (Option.bind (if x = y then a2 else a1) K) := by
  have e : (Option.bind (if x = y then a2 else a1) K) = (if x = y then (Option.bind a2 K) else (Option.bind a1 K)) := by split <;> rfl
  rw [e]
  exact v_icmp_ne hd ht kt kf
theorem v_if_lt {x : Int32} {off : Int} {tgt : Nat} (hd : decode M.2.1 pc = .ok (.ifCond .lt off, 3)) (ht : (pc : Int) + off = (tgt : Int)) (kt : x < 0 → VF M d SH ι tgt L st σ o1) (kf : ¬ x < 0 → VF M d SH ι (pc + 3) L st σ o2) : VF M d SH ι pc L (.int x :: st) σ (if x < 0 then o1 else o2) := by
  intro z hz p l e R s m args below meth c E Q cells slots C hc hs F H locs ls hP hS hL
  exact lv_if_lt C.1 C.2.1 hd ht (fun h => kt h z (by rw [if_pos h] at hz; exact hz) p l e R s m args below meth c E Q cells slots C hc hs F H locs ls hP hS hL) (fun h => kf h z (by rw [if_neg h] at hz; exact hz) p l e R s m args below meth c E Q cells slots C hc hs F H locs ls hP hS hL)
theorem v_if_ltJ {x : Int32} {off : Int} {tgt : Nat} {β : Type} {a1 a2 : Option β} {K : β → Option α} (hd : decode M.2.1 pc = .ok (.ifCond .lt off, 3)) (ht : (pc : Int) + off = (tgt : Int)) (kt : x < 0 → VF M d SH ι tgt L st σ (Option.bind a1 K)) (kf : ¬ x < 0 → VF M d SH ι (pc + 3) L st σ (Option.bind a2 K)) : VF M d SH ι pc L (.int x :: st) σ (Option.bind (if x < 0 then a1 else a2) K) := by
  have e : (Option.bind (if x < 0 then a1 else a2) K) = (if x < 0 then (Option.bind a1 K) else (Option.bind a2 K)) := by split <;> rfl
  rw [e]
  exact v_if_lt hd ht kt kf
theorem v_icmp_lt {x y : Int32} {off : Int} {tgt : Nat} (hd : decode M.2.1 pc = .ok (.if_icmp .lt off, 3)) (ht : (pc : Int) + off = (tgt : Int)) (kt : x < y → VF M d SH ι tgt L st σ o1) (kf : ¬ x < y → VF M d SH ι (pc + 3) L st σ o2) : VF M d SH ι pc L (.int y :: .int x :: st) σ (if x < y then o1 else o2) := by
  intro z hz p l e R s m args below meth c E Q cells slots C hc hs F H locs ls hP hS hL
  exact lv_icmp_lt C.1 C.2.1 hd ht (fun h => kt h z (by rw [if_pos h] at hz; exact hz) p l e R s m args below meth c E Q cells slots C hc hs F H locs ls hP hS hL) (fun h => kf h z (by rw [if_neg h] at hz; exact hz) p l e R s m args below meth c E Q cells slots C hc hs F H locs ls hP hS hL)
theorem v_icmp_ltJ {x y : Int32} {off : Int} {tgt : Nat} {β : Type} {a1 a2 : Option β} {K : β → Option α} (hd : decode M.2.1 pc = .ok (.if_icmp .lt off, 3)) (ht : (pc : Int) + off = (tgt : Int)) (kt : x < y → VF M d SH ι tgt L st σ (Option.bind a1 K)) (kf : ¬ x < y → VF M d SH ι (pc + 3) L st σ (Option.bind a2 K)) : VF M d SH ι pc L (.int y :: .int x :: st) σ (Option.bind (if x < y then a1 else a2) K) := by
  have e : (Option.bind (if x < y then a1 else a2) K) = (if x < y then (Option.bind a1 K) else (Option.bind a2 K)) := by split <;> rfl
  rw [e]
  exact v_icmp_lt hd ht kt kf
theorem v_if_ge {x : Int32} {off : Int} {tgt : Nat} (hd : decode M.2.1 pc = .ok (.ifCond .ge off, 3)) (ht : (pc : Int) + off = (tgt : Int)) (kt : 0 ≤ x → VF M d SH ι tgt L st σ o1) (kf : ¬ 0 ≤ x → VF M d SH ι (pc + 3) L st σ o2) : VF M d SH ι pc L (.int x :: st) σ (if 0 ≤ x then o1 else o2) := by
  intro z hz p l e R s m args below meth c E Q cells slots C hc hs F H locs ls hP hS hL
  exact lv_if_ge C.1 C.2.1 hd ht (fun h => kt h z (by rw [if_pos h] at hz; exact hz) p l e R s m args below meth c E Q cells slots C hc hs F H locs ls hP hS hL) (fun h => kf h z (by rw [if_neg h] at hz; exact hz) p l e R s m args below meth c E Q cells slots C hc hs F H locs ls hP hS hL)
theorem v_if_geJ {x : Int32} {off : Int} {tgt : Nat} {β : Type} {a1 a2 : Option β} {K : β → Option α} (hd : decode M.2.1 pc = .ok (.ifCond .ge off, 3)) (ht : (pc : Int) + off = (tgt : Int)) (kt : 0 ≤ x → VF M d SH ι tgt L st σ (Option.bind a1 K)) (kf : ¬ 0 ≤ x → VF M d SH ι (pc + 3) L st σ (Option.bind a2 K)) : VF M d SH ι pc L (.int x :: st) σ (Option.bind (if 0 ≤ x then a1 else a2) K) := by
  have e : (Option.bind (if 0 ≤ x then a1 else a2) K) = (if 0 ≤ x then (Option.bind a1 K) else (Option.bind a2 K)) := by split <;> rfl
  rw [e]
  exact v_if_ge hd ht kt kf
theorem v_icmp_ge {x y : Int32} {off : Int} {tgt : Nat} (hd : decode M.2.1 pc = .ok (.if_icmp .ge off, 3)) (ht : (pc : Int) + off = (tgt : Int)) (kt : y ≤ x → VF M d SH ι tgt L st σ o1) (kf : ¬ y ≤ x → VF M d SH ι (pc + 3) L st σ o2) : VF M d SH ι pc L (.int y :: .int x :: st) σ (if y ≤ x then o1 else o2) := by
  intro z hz p l e R s m args below meth c E Q cells slots C hc hs F H locs ls hP hS hL
  exact lv_icmp_ge C.1 C.2.1 hd ht (fun h => kt h z (by rw [if_pos h] at hz; exact hz) p l e R s m args below meth c E Q cells slots C hc hs F H locs ls hP hS hL) (fun h => kf h z (by rw [if_neg h] at hz; exact hz) p l e R s m args below meth c E Q cells slots C hc hs F H locs ls hP hS hL)
theorem v_icmp_geJ {x y : Int32} {off : Int} {tgt : Nat} {β : Type} {a1 a2 : Option β} {K : β → Option α} (hd : decode M.2.1 pc = .ok (.if_icmp .ge off, 3)) (ht : (pc : Int) + off = (tgt : Int)) (kt : y ≤ x → VF M d SH ι tgt L st σ (Option.bind a1 K)) (kf : ¬ y ≤ x → VF M d SH ι (pc + 3) L st σ (Option.bind a2 K)) : VF M d SH ι pc L (.int y :: .int x :: st) σ (Option.bind (if y ≤ x then a1 else a2) K) := by
  have e : (Option.bind (if y ≤ x then a1 else a2) K) = (if y ≤ x then (Option.bind a1 K) else (Option.bind a2 K)) := by split <;> rfl
  rw [e]
  exact v_icmp_ge hd ht kt kf
theorem v_if_gt {x : Int32} {off : Int} {tgt : Nat} (hd : decode M.2.1 pc = .ok (.ifCond .gt off, 3)) (ht : (pc : Int) + off = (tgt : Int)) (kt : 0 < x → VF M d SH ι tgt L st σ o1) (kf : ¬ 0 < x → VF M d SH ι (pc + 3) L st σ o2) : VF M d SH ι pc L (.int x :: st) σ (if 0 < x then o1 else o2) := by
  intro z hz p l e R s m args below meth c E Q cells slots C hc hs F H locs ls hP hS hL
  exact lv_if_gt C.1 C.2.1 hd ht (fun h => kt h z (by rw [if_pos h] at hz; exact hz) p l e R s m args below meth c E Q cells slots C hc hs F H locs ls hP hS hL) (fun h => kf h z (by rw [if_neg h] at hz; exact hz) p l e R s m args below meth c E Q cells slots C hc hs F H locs ls hP hS hL)
theorem v_if_gtJ {x : Int32} {off : Int} {tgt : Nat} {β : Type} {a1 a2 : Option β} {K : β → Option α} (hd : decode M.2.1 pc = .ok (.ifCond .gt off, 3)) (ht : (pc : Int) + off = (tgt : Int)) (kt : 0 < x → VF M d SH ι tgt L st σ (Option.bind a1 K)) (kf : ¬ 0 < x → VF M d SH ι (pc + 3) L st σ (Option.bind a2 K)) : VF M d SH ι pc L (.int x :: st) σ (Option.bind (if 0 < x then a1 else a2) K) := by
  have e : (Option.bind (if 0 < x then a1 else a2) K) = (if 0 < x then (Option.bind a1 K) else (Option.bind a2 K)) := by split <;> rfl
  rw [e]
  exact v_if_gt hd ht kt kf
theorem v_icmp_gt {x y : Int32} {off : Int} {tgt : Nat} (hd : decode M.2.1 pc = .ok (.if_icmp .gt off, 3)) (ht : (pc : Int) + off = (tgt : Int)) (kt : y < x → VF M d SH ι tgt L st σ o1) (kf : ¬ y < x → VF M d SH ι (pc + 3) L st σ o2) : VF M d SH ι pc L (.int y :: .int x :: st) σ (if y < x then o1 else o2) := by
  intro z hz p l e R s m args below meth c E Q cells slots C hc hs F H locs ls hP hS hL
  exact lv_icmp_gt C.1 C.2.1 hd ht (fun h => kt h z (by rw [if_pos h] at hz; exact hz) p l e R s m args below meth c E Q cells slots C hc hs F H locs ls hP hS hL) (fun h => kf h z (by rw [if_neg h] at hz; exact hz) p l e R s m args below meth c E Q cells slots C hc hs F H locs ls hP hS hL)
theorem v_icmp_gtJ {x y : Int32} {off : Int} {tgt : Nat} {β : Type} {a1 a2 : Option β} {K : β → Option α} (hd : decode M.2.1 pc = .ok (.if_icmp .gt off, 3)) (ht : (pc : Int) + off = (tgt : Int)) (kt : y < x → VF M d SH ι tgt L st σ (Option.bind a1 K)) (kf : ¬ y < x → VF M d SH ι (pc + 3) L st σ (Option.bind a2 K)) : VF M d SH ι pc L (.int y :: .int x :: st) σ (Option.bind (if y < x then a1 else a2) K) := by
  have e : (Option.bind (if y < x then a1 else a2) K) = (if y < x then (Option.bind a1 K) else (Option.bind a2 K)) := by split <;> rfl
  rw [e]
  exact v_icmp_gt hd ht kt kf
theorem v_if_le {x : Int32} {off : Int} {tgt : Nat} (hd : decode M.2.1 pc = .ok (.ifCond .le off, 3)) (ht : (pc : Int) + off = (tgt : Int)) (kt : x ≤ 0 → VF M d SH ι tgt L st σ o1) (kf : ¬ x ≤ 0 → VF M d SH ι (pc + 3) L st σ o2) : VF M d SH ι pc L (.int x :: st) σ (if x ≤ 0 then o1 else o2) := by
  intro z hz p l e R s m args below meth c E Q cells slots C hc hs F H locs ls hP hS hL
  exact lv_if_le C.1 C.2.1 hd ht (fun h => kt h z (by rw [if_pos h] at hz; exact hz) p l e R s m args below meth c E Q cells slots C hc hs F H locs ls hP hS hL) (fun h => kf h z (by rw [if_neg h] at hz; exact hz) p l e R s m args below meth c E Q cells slots C hc hs F H locs ls hP hS hL)
theorem v_if_leJ {x : Int32} {off : Int} {tgt : Nat} {β : Type} {a1 a2 : Option β} {K : β → Option α} (hd : decode M.2.1 pc = .ok (.ifCond .le off, 3)) (ht : (pc : Int) + off = (tgt : Int)) (kt : x ≤ 0 → VF M d SH ι tgt L st σ (Option.bind a1 K)) (kf : ¬ x ≤ 0 → VF M d SH ι (pc + 3) L st σ (Option.bind a2 K)) : VF M d SH ι pc L (.int x :: st) σ (Option.bind (if x ≤ 0 then a1 else a2) K) := by
  have e : (Option.bind (if x ≤ 0 then a1 else a2) K) = (if x ≤ 0 then (Option.bind a1 K) else (Option.bind a2 K)) := by split <;> rfl
  rw [e]
  exact v_if_le hd ht kt kf
theorem v_icmp_le {x y : Int32} {off : Int} {tgt : Nat} (hd : decode M.2.1 pc = .ok (.if_icmp .le off, 3)) (ht : (pc : Int) + off = (tgt : Int)) (kt : x ≤ y → VF M d SH ι tgt L st σ o1) (kf : ¬ x ≤ y → VF M d SH ι (pc + 3) L st σ o2) : VF M d SH ι pc L (.int y :: .int x :: st) σ (if x ≤ y then o1 else o2) := by
  intro z hz p l e R s m args below meth c E Q cells slots C hc hs F H locs ls hP hS hL
  exact lv_icmp_le C.1 C.2.1 hd ht (fun h => kt h z (by rw [if_pos h] at hz; exact hz) p l e R s m args below meth c E Q cells slots C hc hs F H locs ls hP hS hL) (fun h => kf h z (by rw [if_neg h] at hz; exact hz) p l e R s m args below meth c E Q cells slots C hc hs F H locs ls hP hS hL)
theorem v_icmp_leJ {x y : Int32} {off : Int} {tgt : Nat} {β : Type} {a1 a2 : Option β} {K : β → Option α} (hd : decode M.2.1 pc = .ok (.if_icmp .le off, 3)) (ht : (pc : Int) + off = (tgt : Int)) (kt : x ≤ y → VF M d SH ι tgt L st σ (Option.bind a1 K)) (kf : ¬ x ≤ y → VF M d SH ι (pc + 3) L st σ (Option.bind a2 K)) : VF M d SH ι pc L (.int y :: .int x :: st) σ (Option.bind (if x ≤ y then a1 else a2) K) := by
  have e : (Option.bind (if x ≤ y then a1 else a2) K) = (if x ≤ y then (Option.bind a1 K) else (Option.bind a2 K)) := by split <;> rfl
  rw [e]
  exact v_icmp_le hd ht kt kf
end VFS
end
section
/-! fields, arrays, static arrays, texts, switches, answers, calls -/
theorem gF_pF (σ : St) (k j : Nat) (v : Int32) (k' j' : Nat) : gF (pF σ k j v) k' j' = if k' = k ∧ j' = j then v else gF σ k' j' := by
  unfold gF pF up2
  by_cases h : k' = k <;> by_cases h2 : j' = j <;> simp [h, h2]
theorem gA_pA (σ : St) (k i : Nat) (v : Int32) (k' i' : Nat) : gA (pA σ k i v) k' i' = if k' = k ∧ i' = i then v else gA σ k' i' := by
  unfold gA pA up2
  by_cases h : k' = k <;> by_cases h2 : i' = i <;> simp [h, h2]
theorem gL_pL (σ : St) (k i : Nat) (v : Int64) (k' i' : Nat) : gL (pL σ k i v) k' i' = if k' = k ∧ i' = i then v else gL σ k' i' := by
  unfold gL pL up2
  by_cases h : k' = k <;> by_cases h2 : i' = i <;> simp [h, h2]
theorem gA_pF (σ : St) (k j : Nat) (v : Int32) : gA (pF σ k j v) = gA σ := rfl
theorem gL_pF (σ : St) (k j : Nat) (v : Int32) : gL (pF σ k j v) = gL σ := rfl
theorem gF_pA (σ : St) (k j : Nat) (v : Int32) : gF (pA σ k j v) = gF σ := rfl
theorem gL_pA (σ : St) (k j : Nat) (v : Int32) : gL (pA σ k j v) = gL σ := rfl
theorem gF_pL (σ : St) (k j : Nat) (v : Int64) : gF (pL σ k j v) = gF σ := rfl
theorem gA_pL (σ : St) (k j : Nat) (v : Int64) : gA (pL σ k j v) = gA σ := rfl
theorem gF_pC (σ : St) (k : Nat) (g : Nat → Int32) : gF (pC σ k g) = gF σ := rfl
theorem gL_pC (σ : St) (k : Nat) (g : Nat → Int32) : gL (pC σ k g) = gL σ := rfl
theorem gA_pC (σ : St) (k : Nat) (g : Nat → Int32) (k' : Nat) : gA (pC σ k g) k' = if k' = k then g else gA σ k' := rfl
theorem shE_pF {E : En} {σ : St} {k j : Nat} {v : Int32} (k' : Nat) (c : Sh) (h : k' ≠ k) : shE E (pF σ k j v) k' c = shE E σ k' c := shE_off (σ := σ) (σ' := pF σ k j v) (fun i => by rw [gF_pF, if_neg (fun q => h q.1)]) rfl rfl c
theorem shE_pA {E : En} {σ : St} {k j : Nat} {v : Int32} (k' : Nat) (c : Sh) (h : k' ≠ k) : shE E (pA σ k j v) k' c = shE E σ k' c := shE_off (σ := σ) (σ' := pA σ k j v) (fun i => rfl) (by funext i; rw [gA_pA, if_neg (fun q => h q.1)]) rfl c
theorem shE_pL {E : En} {σ : St} {k j : Nat} {v : Int64} (k' : Nat) (c : Sh) (h : k' ≠ k) : shE E (pL σ k j v) k' c = shE E σ k' c := shE_off (σ := σ) (σ' := pL σ k j v) (fun i => rfl) rfl (by funext i; rw [gL_pL, if_neg (fun q => h q.1)]) c
theorem shE_pC {E : En} {σ : St} {k : Nat} {g : Nat → Int32} (k' : Nat) (c : Sh) (h : k' ≠ k) : shE E (pC σ k g) k' c = shE E σ k' c := shE_off (σ := σ) (σ' := pC σ k g) (fun i => rfl) (by rw [gA_pC, if_neg h]) rfl c
theorem wd_gi {E : En} {σ : St} {SH : SHT} {k t n : Nat} {rows : List Nat} (ht : t < 3) (h : SH.1[k]? = some (.inr (t, n, rows))) : (wd E SH σ)[k]? = some (E.1 k, .inl (E.2.2 t, n, .inl (gA σ k))) := by
  rw [wd_get h]; simp only [shE, shA, if_pos ht]
theorem wd_gl {E : En} {σ : St} {SH : SHT} {k n : Nat} {rows : List Nat} (h : SH.1[k]? = some (.inr (3, n, rows))) : (wd E SH σ)[k]? = some (E.1 k, .inl (E.2.2 3, n, .inr (.inl (gL σ k)))) := by
  rw [wd_get h]; rfl
theorem wd_pA {E : En} {σ : St} {SH : SHT} {k t n i : Nat} {rows : List Nat} {v : Int32} (ht : t < 3) (h : SH.1[k]? = some (.inr (t, n, rows))) : (wd E SH σ).set k (E.1 k, .inl (E.2.2 t, n, .inl (upd (gA σ k) i v))) = wd E SH (pA σ k i v) := by
  rw [← wd_set h (fun j c' hj => shE_pA j c' hj)]
  congr 2
  simp only [shE, shA, if_pos ht]
  congr 4
  funext j
  rw [gA_pA]
  unfold upd
  by_cases hj : j = i <;> simp [hj]
theorem wd_pL {E : En} {σ : St} {SH : SHT} {k n i : Nat} {rows : List Nat} {v : Int64} (h : SH.1[k]? = some (.inr (3, n, rows))) : (wd E SH σ).set k (E.1 k, .inl (E.2.2 3, n, .inr (.inl (vp_updL (gL σ k) i v)))) = wd E SH (pL σ k i v) := by
  rw [← wd_set h (fun j c' hj => shE_pL j c' hj)]
  congr 2
  have e : vp_updL (gL σ k) i v = gL (pL σ k i v) k := by
    funext j
    rw [gL_pL]
    unfold vp_updL
    by_cases hj : j = i <;> simp [hj]
  rw [e]
  rfl
theorem wd_pC {E : En} {σ : St} {SH : SHT} {k t n : Nat} {rows : List Nat} {g : Nat → Int32} (ht : t < 3) (h : SH.1[k]? = some (.inr (t, n, rows))) : (wd E SH σ).set k (E.1 k, .inl (E.2.2 t, n, .inl g)) = wd E SH (pC σ k g) := by
  rw [← wd_set h (fun j c' hj => shE_pC j c' hj)]
  congr 2
  simp only [shE, shA, if_pos ht, gA_pC, if_true]
theorem wd_pF {E : En} {σ : St} {SH : SHT} {k ci j : Nat} {fs : List (Option (Option Nat))} {v : Int32} (h : SH.1[k]? = some (.inl (ci, fs))) (hf : fs[j]? = some none) : (wd E SH σ).set k (E.1 k, .inr (ci, (shV E σ k 0 fs).set j (.int v))) = wd E SH (pF σ k j v) := by
  rw [← wd_set h (fun j c' hj => shE_pF j c' hj)]
  congr 2
  simp only [shE]
  rw [shV_set hf]
def zb (v : Int32) : Bool := decide (v = 0 ∨ v = 1)
theorem zb_n {v : Int32} (h : zb v = true) : narrow .boolean (.int v) = .int v ∧ fits .boolean (.int v) = true := by
  have h : v = 0 ∨ v = 1 := of_decide_eq_true h
  rcases h with rfl | rfl <;> decide +kernel
section VFT
variable {α : Type} {M : MC} {d : Nat} {SH : SHT} {ι : α → Option Value × St} {pc : Nat} {L : List (Nat × Value)} {st : List Value} {σ : St} {o o1 o2 : Option α}
theorem v_getr {idx ci j k r : Nat} {fs : List (Option (Option Nat))} (hd : decode M.2.1 pc = .ok (.getfield idx, 3)) (hG : GF M.1 idx ci j) (hs : SH.1[k]? = some (.inl (ci, fs))) (hf : fs[j]? = some (some (some r))) (kk : VF M d SH ι (pc + 3) L (.ref r :: st) σ o) : VF M d SH ι pc L (.ref k :: st) σ o := by
  intro z hz p l e R s m args below meth c E Q cells slots C hc hs2 F H locs ls hP hS hL
  obtain ⟨C', T, N, g1, g2, g3, g4⟩ := hG
  exact va_get C.1 C.2.1 C.2.2.2.2.1 g2 C.2.2.2.1 C.2.2.2.2.2.2.1.1 hP k (wd_get hs) g1 j g3 (C.2.2.2.2.1 _ g4) (fun _ h => h) (v := .ref (E.1 r)) (by rw [shV_get, hf]; rfl) hd (kk z hz p l e R s m args below meth c E Q cells slots C hc hs2 F H locs ls hP hS hL)
theorem v_geti {idx ci j k : Nat} {fs : List (Option (Option Nat))} (hd : decode M.2.1 pc = .ok (.getfield idx, 3)) (hG : GF M.1 idx ci j) (hs : SH.1[k]? = some (.inl (ci, fs))) (hf : fs[j]? = some none) (kk : VF M d SH ι (pc + 3) L (.int (gF σ k j) :: st) σ o) : VF M d SH ι pc L (.ref k :: st) σ o := by
  intro z hz p l e R s m args below meth c E Q cells slots C hc hs2 F H locs ls hP hS hL
  obtain ⟨C', T, N, g1, g2, g3, g4⟩ := hG
  exact va_get C.1 C.2.1 C.2.2.2.2.1 g2 C.2.2.2.1 C.2.2.2.2.2.2.1.1 hP k (wd_get hs) g1 j g3 (C.2.2.2.2.1 _ g4) (fun _ h => h) (v := .int (gF σ k j)) (by rw [shV_get, hf]; simp) hd (kk z hz p l e R s m args below meth c E Q cells slots C hc hs2 F H locs ls hP hS hL)
theorem v_puti {idx ci j k : Nat} {fs : List (Option (Option Nat))} {ty : FieldType} {v : Int32} (hd : decode M.2.1 pc = .ok (.putfield idx, 3)) (hG : GP M.1 idx ci j ty) (hs : SH.1[k]? = some (.inl (ci, fs))) (hf : fs[j]? = some none) (hn : narrow ty (.int v) = .int v) (hfit : fits ty (.int v) = true) (kk : VF M d SH ι (pc + 3) L st (pF σ k j v) o) : VF M d SH ι pc L (.int v :: .ref k :: st) σ o := by
  intro z hz p l e R s m args below meth c E Q cells slots C hc hs2 F H locs ls hP hS hL
  obtain ⟨C', T, N, ty0, g1, g2, g3, g4, g5, g6, g7, g8⟩ := hG
  exact va_put C.1 C.2.1 C.2.2.2.2.1 g2 ty0 g5 g6 C.2.2.2.1 C.2.2.2.2.2.2.1.1 hP (wd_D C.2.2.2.2.2.1 σ) hS k (wd_get hs) g1 j g3 (C.2.2.2.2.1 _ g4) (fun _ h => h) g7 (v := .int v) g8 hn hfit (by rw [shV_len]; exact (List.getElem?_eq_some_iff.mp hf).1) hd
    (fun H1 locs1 hP1 _ hS1 => kk z hz p l e R s m args below meth c E Q cells slots C hc hs2 F H1 locs1 ls (by rw [← wd_pF hs hf]; exact hP1) hS1 hL)
theorem v_putz {idx ci j k : Nat} {fs : List (Option (Option Nat))} {v : Int32} (hd : decode M.2.1 pc = .ok (.putfield idx, 3)) (hG : GP M.1 idx ci j .boolean) (hs : SH.1[k]? = some (.inl (ci, fs))) (hf : fs[j]? = some none) (kk : VF M d SH ι (pc + 3) L st (pF σ k j v) o) : VF M d SH ι pc L (.int v :: .ref k :: st) σ (gd (zb v) o) :=
  v_gd fun h => v_puti hd hG hs hf (zb_n h).1 (zb_n h).2 kk
theorem v_iald {k n : Nat} {rows : List Nat} {i : Int32} {j : Nat} (hd : decode M.2.1 pc = .ok (.iaload, 1)) (hs : SH.1[k]? = some (.inr (0, n, rows))) (hi : ib i n = true) (hj : ix i = j) (kk : VF M d SH ι (pc + 1) L (.int (gA σ k j) :: st) σ o) : VF M d SH ι pc L (.int i :: .ref k :: st) σ o := by
  subst hj
  intro z hz p l e R s m args below meth c E Q cells slots C hc hs2 F H locs ls hP hS hL
  exact va_iald C.1 C.2.1 C.2.2.2.2.2.2.1.1 hP k 0 (wd_gi (by decide) hs) rfl (ib_in hi) hd (kk z hz p l e R s m args below meth c E Q cells slots C hc hs2 F H locs ls hP hS hL)
theorem v_bald {k n : Nat} {rows : List Nat} {i : Int32} {j : Nat} (hd : decode M.2.1 pc = .ok (.baload, 1)) (hs : SH.1[k]? = some (.inr (1, n, rows))) (hi : ib i n = true) (hj : ix i = j) (kk : VF M d SH ι (pc + 1) L (.int (gA σ k j) :: st) σ o) : VF M d SH ι pc L (.int i :: .ref k :: st) σ o := by
  subst hj
  intro z hz p l e R s m args below meth c E Q cells slots C hc hs2 F H locs ls hP hS hL
  exact va_bald C.1 C.2.1 C.2.2.2.2.2.2.1.1 hP k 1 (wd_gi (by decide) hs) rfl (ib_in hi) hd (kk z hz p l e R s m args below meth c E Q cells slots C hc hs2 F H locs ls hP hS hL)
theorem v_cald {k n : Nat} {rows : List Nat} {i : Int32} {j : Nat} (hd : decode M.2.1 pc = .ok (.caload, 1)) (hs : SH.1[k]? = some (.inr (2, n, rows))) (hi : ib i n = true) (hj : ix i = j) (kk : VF M d SH ι (pc + 1) L (.int (gA σ k j) :: st) σ o) : VF M d SH ι pc L (.int i :: .ref k :: st) σ o := by
  subst hj
  intro z hz p l e R s m args below meth c E Q cells slots C hc hs2 F H locs ls hP hS hL
  exact va_cald C.1 C.2.1 C.2.2.2.2.2.2.1.1 hP k 2 (wd_gi (by decide) hs) rfl (ib_in hi) hd (kk z hz p l e R s m args below meth c E Q cells slots C hc hs2 F H locs ls hP hS hL)
theorem v_lald {k n : Nat} {rows : List Nat} {i : Int32} {j : Nat} (hd : decode M.2.1 pc = .ok (.laload, 1)) (hs : SH.1[k]? = some (.inr (3, n, rows))) (hi : ib i n = true) (hj : ix i = j) (kk : VF M d SH ι (pc + 1) L (.long (gL σ k j) :: st) σ o) : VF M d SH ι pc L (.int i :: .ref k :: st) σ o := by
  subst hj
  intro z hz p l e R s m args below meth c E Q cells slots C hc hs2 F H locs ls hP hS hL
  exact va_lald C.1 C.2.1 C.2.2.2.2.2.2.1.1 hP k 3 (wd_gl hs) rfl (ib_in hi) hd (kk z hz p l e R s m args below meth c E Q cells slots C hc hs2 F H locs ls hP hS hL)
theorem v_aald {k n t : Nat} {rows : List Nat} {i : Int32} {r : Nat} (hd : decode M.2.1 pc = .ok (.aaload, 1)) (ht : t = 4 ∨ t = 5) (hs : SH.1[k]? = some (.inr (t, n, rows))) (hi : ib i n = true) (hr : rows[ix i]? = some r) (kk : VF M d SH ι (pc + 1) L (.ref r :: st) σ o) : VF M d SH ι pc L (.int i :: .ref k :: st) σ o := by
  intro z hz p l e R s m args below meth c E Q cells slots C hc hs2 F H locs ls hP hS hL
  have hK := C.2.2.2.2.2.2.1.1
  have hlt : i.toNatClampNeg < n := Nat.not_le.mp fun q => ib_in hi (Or.inr q)
  have ha : (wd E SH σ)[k]? = some (E.1 k, .inl (E.2.2 t, n, .inr (.inr (.inr (.inr (fun i => (rows[i]?).map E.1)))))) := by
    rw [wd_get hs]
    rcases ht with rfl | rfl <;> rfl
  have hr2 : (rows[i.toNatClampNeg]?).map E.1 = some (E.1 r) := by
    show (rows[ix i]?).map E.1 = _
    rw [hr]; rfl
  have key : ∀ (t0 : Nat) (ty : FieldType), (tyl E)[t0]? = some (E.2.2 t, ty) → ty.isReference = true → W p l e R s m args below meth c H locs cells slots Q (F0 m pc ls (cvs E (.int i :: .ref k :: st))) := fun t0 ty h1 h2 =>
    W.aald (v := .ref (E.1 r)) (ty := ty) C.1 C.2.1 (hP k _ ha) ((hK.2 t0 _ h1).1 n (fun j => va_rf ((rows[j]?).map E.1))) h2 (fun q => by cases q) (by show ¬ (i < 0 ∨ (arrV _ _ _).slots.size ≤ _); rw [arrV_size]; exact ib_in hi) (by show (arrV _ _ _).slots[_]? = _; rw [arrV_read _ _ hlt]; show some (va_rf ((rows[i.toNatClampNeg]?).map E.1)) = _; rw [hr2]; rfl) rfl rfl hd (kk z hz p l e R s m args below meth c E Q cells slots C hc hs2 F H locs ls hP hS hL)
  rcases ht with rfl | rfl
  · exact key 4 (.array .int) rfl rfl
  · exact key 5 (.array .long) rfl rfl
theorem v_iast {k n : Nat} {rows : List Nat} {i x : Int32} {j : Nat} (hd : decode M.2.1 pc = .ok (.iastore, 1)) (hs : SH.1[k]? = some (.inr (0, n, rows))) (hi : ib i n = true) (hj : ix i = j) (kk : VF M d SH ι (pc + 1) L st (pA σ k j x) o) : VF M d SH ι pc L (.int x :: .int i :: .ref k :: st) σ o := by
  subst hj
  intro z hz p l e R s m args below meth c E Q cells slots C hc hs2 F H locs ls hP hS hL
  exact va_iast C.1 C.2.1 C.2.2.2.2.2.2.1.1 hP (wd_D C.2.2.2.2.2.1 σ) hS k 0 (wd_gi (by decide) hs) rfl (ib_in hi) hd (fun H1 locs1 hP1 _ hS1 => kk z hz p l e R s m args below meth c E Q cells slots C hc hs2 F H1 locs1 ls (by rw [← wd_pA (by decide) hs]; exact hP1) hS1 hL)
theorem v_bast {k n : Nat} {rows : List Nat} {i x : Int32} {j : Nat} (hd : decode M.2.1 pc = .ok (.bastore, 1)) (hs : SH.1[k]? = some (.inr (1, n, rows))) (hi : ib i n = true) (hj : ix i = j) (kk : VF M d SH ι (pc + 1) L st (pA σ k j x.toInt8.toInt32) o) : VF M d SH ι pc L (.int x :: .int i :: .ref k :: st) σ o := by
  subst hj
  intro z hz p l e R s m args below meth c E Q cells slots C hc hs2 F H locs ls hP hS hL
  exact va_bast C.1 C.2.1 C.2.2.2.2.2.2.1.1 hP (wd_D C.2.2.2.2.2.1 σ) hS k 1 (wd_gi (by decide) hs) rfl (ib_in hi) hd (fun H1 locs1 hP1 _ hS1 => kk z hz p l e R s m args below meth c E Q cells slots C hc hs2 F H1 locs1 ls (by rw [← wd_pA (by decide) hs]; exact hP1) hS1 hL)
theorem v_last {k n : Nat} {rows : List Nat} {i : Int32} {x : Int64} {j : Nat} (hd : decode M.2.1 pc = .ok (.lastore, 1)) (hs : SH.1[k]? = some (.inr (3, n, rows))) (hi : ib i n = true) (hj : ix i = j) (kk : VF M d SH ι (pc + 1) L st (pL σ k j x) o) : VF M d SH ι pc L (.long x :: .int i :: .ref k :: st) σ o := by
  subst hj
  intro z hz p l e R s m args below meth c E Q cells slots C hc hs2 F H locs ls hP hS hL
  exact va_last C.1 C.2.1 C.2.2.2.2.2.2.1.1 hP (wd_D C.2.2.2.2.2.1 σ) hS k 3 (wd_gl hs) rfl (ib_in hi) hd (fun H1 locs1 hP1 _ hS1 => kk z hz p l e R s m args below meth c E Q cells slots C hc hs2 F H1 locs1 ls (by rw [← wd_pL hs]; exact hP1) hS1 hL)
/-- System.arraycopy of whole int rows -/
theorem v_copy {k0 k1 n n0 n1 idx : Nat} {r0 r1 : List Nat} {nn : Int32} (hd : decode M.2.1 pc = .ok (.invokestatic idx, 3)) (hG : GCopy M.1 idx) (hs0 : SH.1[k0]? = some (.inr (0, n0, r0))) (hs1 : SH.1[k1]? = some (.inr (0, n1, r1))) (hn : nn.toNatClampNeg = n ∧ ¬ nn < 0) (h0 : n ≤ n0) (h1 : n ≤ n1) (hdd : 1 ≤ d)
    (kk : VF M d SH ι (pc + 3) L [] (pC σ k1 (cpN n (gA σ k0) (gA σ k1))) o) : VF M d SH ι pc L [.int nn, .int 0, .ref k1, .int 0, .ref k0] σ o := by
  intro z hz p l e R s m args below meth c E Q cells slots C hc hs2 F H locs ls hP hS hL
  obtain ⟨g1, g2, g3, g4⟩ := hG
  have hts := C.2.2.2.2.1
  have z0 : (0 : Int32).toNatClampNeg = 0 := by decide +kernel
  have e1 : va_cpy (gA σ k0) (gA σ k1) (0 : Int32).toNatClampNeg (0 : Int32).toNatClampNeg nn.toNatClampNeg = cpN n (gA σ k0) (gA σ k1) := by
    rw [z0, hn.1]
    funext j
    simp [va_cpy, cpN]
  refine va_copyi (ty := .int) C.1 C.2.1 (by rw [C.2.2.1]; exact hL.1.symm) C.2.2.2.1 (hts _ g1) (hts _ g2) (hts _ g3) (hts _ g4) C.2.2.2.2.2.2.1.1 hP (wd_D C.2.2.2.2.2.1 σ) hS k0 k1 0 0 (wd_gi (by decide) hs0) (wd_gi (by decide) hs1) rfl rfl rfl (by decide +kernel) (by decide +kernel) hn.2 (by rw [z0, hn.1]; omega) (by rw [z0, hn.1]; omega) (fun i _ => rfl) (Nat.le_trans hdd C.2.2.2.2.2.2.2.1) ?_ hd (fun H1 locs1 hP1 _ hS1 => kk z hz p l e R s m args below meth c E Q cells slots C hc hs2 F H1 locs1 ls (by rw [← wd_pC (by decide) hs1, ← e1]; exact hP1) hS1 hL)
  refine Nat.le_trans ?_ (Nat.le_trans (Nat.mul_le_mul_left 200 hdd) C.2.2.2.2.2.2.2.2)
  exact Nat.le_of_ble_eq_true rfl
theorem v_gets {idx i : Nat} (hd : decode M.2.1 pc = .ok (.getstatic idx, 3)) (hG : GS M.1 idx i) (kk : VF M d SH ι (pc + 3) L (.ref (1000 + i) :: st) σ o) : VF M d SH ι pc L st σ o := by
  intro z hz p l e R s m args below meth c E Q cells slots C hc hs2 F H locs ls hP hS hL
  obtain ⟨hi, hl⟩ := hG
  have hZ := ((C.2.2.2.2.2.2.1).2.1 i hi).1
  rcases hl with hl | ⟨host, hl⟩
  · exact va_gets C.1 C.2.1 hZ hS C.2.2.2.1 (C.2.2.2.2.1 _ hl) (fun _ h => h) hd (kk z hz p l e R s m args below meth c E Q cells slots C hc hs2 F H locs ls hP hS hL)
  · exact va_getsN C.1 C.2.1 hZ hS C.2.2.2.1 (va_Nw.use (NW_tabs hl) (C.2.2.2.2.2.2.1.2.2.2.2.2.2.1 _ hl)) (fun _ h => h) hd (kk z hz p l e R s m args below meth c E Q cells slots C hc hs2 F H locs ls hP hS hL)
theorem v_tald {i k : Nat} {j : Int32} (hd : decode M.2.1 pc = .ok (.iaload, 1)) (hk : k = 1000 + i) (h4 : i < 4) (hi : ib j (tabL i).length = true) {j' : Nat} (hj : ix j = j') (kk : VF M d SH ι (pc + 1) L (.int (stV i j') :: st) σ o) : VF M d SH ι pc L (.int j :: .ref k :: st) σ o := by
  subst hk
  subst hj
  intro z hz p l e R s m args below meth c E Q cells slots C hc hs2 F H locs ls hP hS hL
  exact va_ti C.1 C.2.1 ((C.2.2.2.2.2.2.1).2.1 i h4).2 hS (ib_in hi) rfl hd (kk z hz p l e R s m args below meth c E Q cells slots C hc hs2 F H locs ls hP hS hL)
theorem v_ldc {idx : Nat} {v : Int32} (hd : decode M.2.1 pc = .ok (.ldc idx, 2)) (hG : Cond.constant M.1 idx v ∈ TB) (kk : VF M d SH ι (pc + 2) L (.int v :: st) σ o) : VF M d SH ι pc L st σ o :=
  fun z hz p l e R s m args below meth c E Q cells slots C hc hs F H locs ls hP hS hL => lv_ldc C.1 C.2.1 C.2.2.2.1 (C.2.2.2.2.1 _ hG) hd (kk z hz p l e R s m args below meth c E Q cells slots C hc hs F H locs ls hP hS hL)
theorem v_ldcw {idx : Nat} {v : Int32} (hd : decode M.2.1 pc = .ok (.ldc_w idx, 3)) (hG : Cond.constant M.1 idx v ∈ TB) (kk : VF M d SH ι (pc + 3) L (.int v :: st) σ o) : VF M d SH ι pc L st σ o :=
  fun z hz p l e R s m args below meth c E Q cells slots C hc hs F H locs ls hP hS hL => lv_ldcw C.1 C.2.1 C.2.2.2.1 (C.2.2.2.2.1 _ hG) hd (kk z hz p l e R s m args below meth c E Q cells slots C hc hs F H locs ls hP hS hL)
theorem v_ldc2 {idx : Nat} {v : Int64} (hd : decode M.2.1 pc = .ok (.ldc2_w idx, 3)) (hG : Cond.constantLong M.1 idx v ∈ TB) (kk : VF M d SH ι (pc + 3) L (.long v :: st) σ o) : VF M d SH ι pc L st σ o :=
  fun z hz p l e R s m args below meth c E Q cells slots C hc hs F H locs ls hP hS hL => lv_ldc2 C.1 C.2.1 C.2.2.2.1 (C.2.2.2.2.1 _ hG) hd (kk z hz p l e R s m args below meth c E Q cells slots C hc hs F H locs ls hP hS hL)
theorem v_ldcS {idx i : Nat} (hd : decode M.2.1 pc = .ok (.ldc idx, 2)) (hM : M.1 = "SpringOaths$Tape") (hi : i < 16) (hk : strK i = idx) (kk : VF M d SH ι (pc + 2) L (.ref (2000 + i) :: st) σ o) : VF M d SH ι pc L st σ o := by
  subst hk
  intro z hz p l e R s m args below meth c E Q cells slots C hc hs F H locs ls hP hS hL
  have h := (C.2.2.2.2.2.2.1).2.2.2.2.2.1 i hi
  have ho := C.2.2.2.1
  rw [hM] at ho
  exact va_ldcS C.1 C.2.1 ho h hd (kk z hz p l e R s m args below meth c E Q cells slots C hc hs F H locs ls hP hS hL)
/-- the script -/
theorem v_sld {j : Int32} (hd : decode M.2.1 pc = .ok (.iaload, 1)) (hi : ib j SH.2.1 = true) (kk : VF M d SH ι (pc + 1) L (.int (SH.2.2 (ix j)) :: st) σ o) : VF M d SH ι pc L (.int j :: .ref 5000 :: st) σ o := by
  intro z hz p l e R s m args below meth c E Q cells slots C hc hs2 F H locs ls hP hS hL
  exact va_ti C.1 C.2.1 C.2.2.2.2.2.2.1.2.2.2.2.2.2.2 hS (ib_in hi) rfl hd (kk z hz p l e R s m args below meth c E Q cells slots C hc hs2 F H locs ls hP hS hL)
theorem v_slen (hd : decode M.2.1 pc = .ok (.arraylength, 1)) (kk : VF M d SH ι (pc + 1) L (.int (Int32.ofNat SH.2.1) :: st) σ o) : VF M d SH ι pc L (.ref 5000 :: st) σ o := by
  intro z hz p l e R s m args below meth c E Q cells slots C hc hs2 F H locs ls hP hS hL
  exact va_tlen C.1 C.2.1 C.2.2.2.2.2.2.1.2.2.2.2.2.2.2 hS rfl hd (kk z hz p l e R s m args below meth c E Q cells slots C hc hs2 F H locs ls hP hS hL)
/-! switches: the places by a list of cases -/
def swT : List (Int32 × Nat) → Nat → Int32 → Nat
  | [], dt, _ => dt
  | (v, t) :: r, dt, x => if x = v then t else swT r dt x
def swChk (pc : Nat) (lo : Int) (offs : Array Int) (cs : List (Int32 × Nat)) (dt : Nat) : Bool :=
  (List.range offs.size).all (fun i => decide ((pc : Int) + (offs[i]?).getD 0 = (swT cs dt (Int32.ofInt (lo + i)) : Int))) && cs.all (fun q => decide (lo ≤ q.1.toInt ∧ q.1.toInt < lo + offs.size))
theorem swT_out {cs : List (Int32 × Nat)} {dt : Nat} {x : Int32} (h : ∀ q ∈ cs, q.1 ≠ x) : swT cs dt x = dt := by
  induction cs with
  | nil => rfl
  | cons q r ih =>
    obtain ⟨v, t⟩ := q
    simp only [swT]
    rw [if_neg (fun e => h _ List.mem_cons_self e.symm)]
    exact ih (fun q hq => h q (List.mem_cons_of_mem _ hq))
theorem v_tsw {dflt lo hi : Int} {offs : Array Int} {len : Nat} {x : Int32} {cs : List (Int32 × Nat)} {dt : Nat} (hd : decode M.2.1 pc = .ok (.tableswitch dflt lo hi offs, len)) (hsz : hi + 1 = lo + offs.size) (hdt : (pc : Int) + dflt = (dt : Int)) (hchk : swChk pc lo offs cs dt = true) (kk : VF M d SH ι (swT cs dt x) L st σ o) : VF M d SH ι pc L (.int x :: st) σ o := by
  intro z hz p l e R s m args below meth c E Q cells slots C hc hs F H locs ls hP hS hL
  have k := kk z hz p l e R s m args below meth c E Q cells slots C hc hs F H locs ls hP hS hL
  unfold swChk at hchk
  rw [Bool.and_eq_true] at hchk
  obtain ⟨c1, c2⟩ := hchk
  by_cases hin : x.toInt < lo ∨ hi < x.toInt
  · refine lv_tableOut C.1 C.2.1 hd hin hdt ?_
    rw [swT_out (fun q hq e => ?_)] at k
    · exact k
    · have := of_decide_eq_true (List.all_eq_true.mp c2 q hq)
      rw [e] at this
      omega
  · have h1 : ¬ x.toInt < lo := fun q => hin (Or.inl q)
    have h2 : ¬ hi < x.toInt := fun q => hin (Or.inr q)
    have hlt : (x.toInt - lo).toNat < offs.size := by omega
    have hg : offs[(x.toInt - lo).toNat]? = some offs[(x.toInt - lo).toNat] := Array.getElem?_eq_getElem hlt
    have hx : Int32.ofInt (lo + ((x.toInt - lo).toNat : Nat)) = x := by
      rw [show lo + ((x.toInt - lo).toNat : Int) = x.toInt by omega]
      exact Int32.ofInt_toInt x
    have e1 := of_decide_eq_true (List.all_eq_true.mp c1 _ (List.mem_range.mpr hlt))
    rw [hg, hx] at e1
    exact lv_tableIn C.1 C.2.1 hd h1 h2 hg e1 k
theorem v_lsw {dflt : Int} {ps : Array (Int × Int)} {len : Nat} {x : Int32} {cs : List (Int32 × Nat)} {dt : Nat} (hd : decode M.2.1 pc = .ok (.lookupswitch dflt ps, len)) (hp : (ps.toList.zip (ps.toList.drop 1)).all (fun (a, next) => a.1 < next.1) = true) (hdt : (pc : Int) + dflt = (dt : Int)) (hc : ps.toList.map (fun q => (Int32.ofInt q.1, ((pc : Int) + q.2).toNat)) = cs) (hc2 : ps.toList.all (fun q => decide ((Int32.ofInt q.1).toInt = q.1 ∧ 0 ≤ (pc : Int) + q.2)) = true) (kk : VF M d SH ι (swT cs dt x) L st σ o) : VF M d SH ι pc L (.int x :: st) σ o := by
  intro z hz p l e R s m args below meth c E Q cells slots C hcl hs F H locs ls hP hS hL
  have k := kk z hz p l e R s m args below meth c E Q cells slots C hcl hs F H locs ls hP hS hL
  refine lv_lookup C.1 C.2.1 hd hp rfl ?_ k
  subst hc
  generalize ps.toList = l0 at hc2
  induction l0 with
  | nil => exact hdt
  | cons q r ih =>
    obtain ⟨a, b⟩ := q
    have q1 := of_decide_eq_true (List.all_eq_true.mp hc2 (a, b) List.mem_cons_self)
    have q2 := ih (List.all_eq_true.mpr fun y hy => List.all_eq_true.mp hc2 y (List.mem_cons_of_mem _ hy))
    simp only [List.map_cons, swT]
    rw [Op.lookupswitch.offset_cons]
    by_cases hx : x = Int32.ofInt a
    · rw [if_pos (by rw [hx]; exact q1.1.symm), if_pos hx]
      have := q1.2
      simp only at this ⊢
      omega
    · rw [if_neg (fun h => hx (Int32.toInt_inj.mp (by rw [q1.1]; exact h.symm))), if_neg hx]
      exact q2
theorem v_swc {v : Int32} {t dt : Nat} {r : List (Int32 × Nat)} {x : Int32} (h1 : x = v → VF M d SH ι t L st σ o1) (h2 : ¬ x = v → VF M d SH ι (swT r dt x) L st σ o2) : VF M d SH ι (swT ((v, t) :: r) dt x) L st σ (if x = v then o1 else o2) := by
  by_cases h : x = v
  · simp only [swT, if_pos h]; exact h1 h
  · simp only [swT, if_neg h]; exact h2 h
theorem v_swn {dt : Nat} {x : Int32} (h : VF M d SH ι dt L st σ o) : VF M d SH ι (swT [] dt x) L st σ o := h
theorem v_ite {c : Prop} [Decidable c] (h : ¬ c) (k : VF M d SH ι pc L st σ (if c then none else o)) : VF M d SH ι pc L st σ o := by rwa [if_neg h] at k
theorem v_itt {c : Prop} [Decidable c] (h : c) (k : VF M d SH ι pc L st σ (if c then o else none)) : VF M d SH ι pc L st σ o := by rwa [if_pos h] at k
/-! String constants -/
theorem v_strval {i k idx : Nat} (hd : decode M.2.1 pc = .ok (.getfield idx, 3)) (hl : Cond.fieldLink M.1 idx "java/lang/String" "value" "[B" ∈ TB) (hi : i < 16) (hk : k = 2000 + i) (kk : VF M d SH ι (pc + 3) L (.ref (3000 + i) :: st) σ o) : VF M d SH ι pc L (.ref k :: st) σ o := by
  subst hk
  intro z hz p l e R s m args below meth c E Q cells slots C hc hs2 F H locs ls hP hS hL
  exact vk_getf C.1 C.2.1 (((C.2.2.2.2.2.2.1).2.2.2.2.1).1 i hi).2.2.1 hS C.2.2.2.1 (C.2.2.2.2.1 _ hl) (fun _ h => h) hd (kk z hz p l e R s m args below meth c E Q cells slots C hc hs2 F H locs ls hP hS hL)
theorem v_strcod {i k idx : Nat} (hd : decode M.2.1 pc = .ok (.getfield idx, 3)) (hl : Cond.fieldLink M.1 idx "java/lang/String" "coder" "B" ∈ TB) (hi : i < 16) (hk : k = 2000 + i) (kk : VF M d SH ι (pc + 3) L (.int 0 :: st) σ o) : VF M d SH ι pc L (.ref k :: st) σ o := by
  subst hk
  intro z hz p l e R s m args below meth c E Q cells slots C hc hs2 F H locs ls hP hS hL
  exact vk_getf C.1 C.2.1 (((C.2.2.2.2.2.2.1).2.2.2.2.1).1 i hi).2.1 hS C.2.2.2.1 (C.2.2.2.2.1 _ hl) (fun _ h => h) hd (kk z hz p l e R s m args below meth c E Q cells slots C hc hs2 F H locs ls hP hS hL)
theorem v_strbal {i : Nat} {j : Int32} (hd : decode M.2.1 pc = .ok (.baload, 1)) (hi : i < 16) (hj : ib j (strN.getD i 0) = true) (kk : VF M d SH ι (pc + 1) L (.int ((strB.getD i []).getD (ix j) 0) :: st) σ o) : VF M d SH ι pc L (.int j :: .ref (3000 + i) :: st) σ o := by
  intro z hz p l e R s m args below meth c E Q cells slots C hc hs2 F H locs ls hP hS hL
  exact va_tb C.1 C.2.1 (((C.2.2.2.2.2.2.1).2.2.2.2.1).1 i hi).2.2.2 hS (ib_in hj) rfl hd (kk z hz p l e R s m args below meth c E Q cells slots C hc hs2 F H locs ls hP hS hL)
theorem v_strlen {i : Nat} (hd : decode M.2.1 pc = .ok (.arraylength, 1)) (hi : i < 16) (kk : VF M d SH ι (pc + 1) L (.int (Int32.ofNat (strN.getD i 0)) :: st) σ o) : VF M d SH ι pc L (.ref (3000 + i) :: st) σ o := by
  intro z hz p l e R s m args below meth c E Q cells slots C hc hs2 F H locs ls hP hS hL
  exact va_tlen C.1 C.2.1 (((C.2.2.2.2.2.2.1).2.2.2.2.1).1 i hi).2.2.2 hS rfl hd (kk z hz p l e R s m args below meth c E Q cells slots C hc hs2 F H locs ls hP hS hL)
theorem v_compact {idx : Nat} (hd : decode M.2.1 pc = .ok (.getstatic idx, 3)) (hl : Cond.fieldLink M.1 idx "java/lang/String" "COMPACT_STRINGS" "Z" ∈ TB) (kk : VF M d SH ι (pc + 3) L (.int 1 :: st) σ o) : VF M d SH ι pc L st σ o := by
  intro z hz p l e R s m args below meth c E Q cells slots C hc hs2 F H locs ls hP hS hL
  exact va_gets C.1 C.2.1 (C.2.2.2.2.2.2.1).2.2.1 hS C.2.2.2.1 (C.2.2.2.2.1 _ hl) (fun _ h => h) hd (kk z hz p l e R s m args below meth c E Q cells slots C hc hs2 F H locs ls hP hS hL)
theorem v_getq {idx : Nat} (hd : decode M.2.1 pc = .ok (.getstatic idx, 3)) (hl : Cond.fieldLink M.1 idx "jdk/internal/util/Preconditions" "SIOOBE_FORMATTER" "Ljava/util/function/BiFunction;" ∈ TB) (k1 : VF M d SH ι (pc + 3) L (.null :: st) σ o) (k2 : VF M d SH ι (pc + 3) L (.ref 4000 :: st) σ o) : VF M d SH ι pc L st σ o := by
  intro z hz p l e R s m args below meth c E Q cells slots C hc hs2 F H locs ls hP hS hL
  rcases (C.2.2.2.2.2.2.1).2.2.2.1 with h | h
  · exact va_gets C.1 C.2.1 h hS C.2.2.2.1 (C.2.2.2.2.1 _ hl) (fun _ h => h) hd (k1 z hz p l e R s m args below meth c E Q cells slots C hc hs2 F H locs ls hP hS hL)
  · exact va_gets C.1 C.2.1 h hS C.2.2.2.1 (C.2.2.2.2.1 _ hl) (fun _ h => h) hd (k2 z hz p l e R s m args below meth c E Q cells slots C hc hs2 F H locs ls hP hS hL)
/-! answers -/
theorem v_ret {q : α} {v : Int32} {ty : FieldType} (hd : decode M.2.1 pc = .ok (.ireturn, 1)) (hq : ι q = (some (.int v), σ)) (hr : M.2.2.2 = some ty) (hn : narrow ty (.int v) = .int v) : VF M d SH ι pc L [.int v] σ (some q) := by
  intro z hz p l e R s m args below meth c E Q cells slots C hc hs F H locs ls hP hS hL
  cases hz
  rw [hq] at F
  exact F pc ls H locs ⟨hd, ty, hr, hn⟩ hP hS
theorem v_retz {q : α} {v : Int32} (hd : decode M.2.1 pc = .ok (.ireturn, 1)) (hq : ι q = (some (.int v), σ)) (hr : M.2.2.2 = some .boolean) : VF M d SH ι pc L [.int v] σ (gd (zb v) (some q)) := v_gd fun h => v_ret hd hq hr (zb_n h).1
theorem v_lret {q : α} {v : Int64} (hd : decode M.2.1 pc = .ok (.lreturn, 1)) (hq : ι q = (some (.long v), σ)) (hr : M.2.2.2 = some .long) : VF M d SH ι pc L [.long v] σ (some q) := by
  intro z hz p l e R s m args below meth c E Q cells slots C hc hs F H locs ls hP hS hL
  cases hz
  rw [hq] at F
  exact F pc ls H locs ⟨hd, hr⟩ hP hS
theorem v_aret {q : α} {v : Nat} {n : String} (hd : decode M.2.1 pc = .ok (.areturn, 1)) (hq : ι q = (some (.ref v), σ)) (hr : M.2.2.2 = some (.object n)) : VF M d SH ι pc L [.ref v] σ (some q) := by
  intro z hz p l e R s m args below meth c E Q cells slots C hc hs F H locs ls hP hS hL
  cases hz
  rw [hq] at F
  exact F pc ls H locs ⟨hd, n, hr⟩ hP hS
theorem v_vret {q : α} (hd : decode M.2.1 pc = .ok (.return_, 1)) (hq : ι q = (none, σ)) (hr : M.2.2.2 = none) : VF M d SH ι pc L [] σ (some q) := by
  intro z hz p l e R s m args below meth c E Q cells slots C hc hs F H locs ls hP hS hL
  cases hz
  rw [hq] at F
  exact F pc ls H locs ⟨hd, hr⟩ hP hS
/-- joins and loops: what goes on gets a name -/
theorem v_pick {L' : List (Nat × Value)} (ks : List Nat) (hl : lv_pick L ks = L') (k : VF M d SH ι pc L' st σ o) : VF M d SH ι pc L st σ o :=
  v_sub (fun q hq => by
    rw [← hl] at hq
    obtain ⟨i, -, hi⟩ := List.mem_filterMap.mp hq
    exact List.mem_of_getElem? hi) k
theorem ib_lt {i : Int32} {n : Nat} (h : ib i n = true) : ix i < n := Nat.not_le.mp fun q => ib_in h (Or.inr q)
theorem rng_get {n q i : Nat} (h : i < n) : ((List.range n).map (fun i => q + i))[i]? = some (q + i) := by simp [h]
theorem v_bnK {κ : Type} {f : κ → Option α} {a : κ} (P : κ → Prop) (hb : ∀ K, P K → VF M d SH ι pc L st σ (f K)) (ha : P a) : VF M d SH ι pc L st σ (bn a f) := hb a ha
end VFT
end
section
/-! contracts and calls -/
def WH (E : En) (SH : SHT) (σ : St) (t : State) : Prop := va_P E.2.1 vwCl (wd E SH σ) t.heap
def QR (E : En) (SH : SHT) (vr : Option Value) (σr : St) : Array Value → State → Outcome → State → Prop := match vr with
  | none => va_Qv (fun _ : Unit => True) (fun _ t => WH E SH σr t) (Aw E SH)
  | some (.int v) => va_Qi (fun r (_ : Unit) => r = v) (fun _ t => WH E SH σr t) (Aw E SH)
  | some (.long v) => va_Ql (fun r (_ : Unit) => r = v) (fun _ t => WH E SH σr t) (Aw E SH)
  | some (.ref k) => va_Qr (fun _ : Unit => True) (fun _ a t => a = E.1 k ∧ WH E SH σr t) (Aw E SH)
  | _ => fun _ _ _ _ => False
def PB (E : En) (SH : SHT) (σ : St) : State → Prop := fun U => Gk E SH.2 (Aw E SH) U U.heap ∧ WH E SH σ U
/-- the contract of y: from the world σ, with the arguments av, it comes to the answer that o has -/
def CT {α : Type} (y : MethodName) (M : MC) (d : Nat) (SH : SHT) (ι : α → Option Value × St) (av : List Value) (σ : St) (o : Option α) : Prop :=
  ∀ z, o = some z → ∀ (l : Launch) (E : En), EOK E SH → Met l y (.code y M.2.1 M.2.2.1 M.2.2.2 :: TB) (rmd d) (va_Pc (cvs E av) (PB E SH σ)) (QR E SH (ι z).1 (ι z).2) 0 0 (Aw E SH)
theorem PB_blind {E : En} {SH : SHT} {σ : St} (av : List Value) : FrameBlind (va_Pc av (PB E SH σ)) := fun a U g mk q => ⟨q.1, Gk.same (u := U) (U := U.calling g mk a) rfl q.2.1, q.2.2⟩
theorem lv_args_cv (E : En) : ∀ (av : List Value) (i : Nat), lv_args i (cvs E av) = cvL E (lv_args i av)
  | [], i => rfl
  | v :: vs, i => by
    show (i, cv E v) :: lv_args (if (cv E v).category = 2 then i + 2 else i + 1) (cvs E vs) = _
    rw [cv_cat, lv_args_cv E vs]
    rfl
theorem CT.of {α : Type} {y : MethodName} {M : MC} {d : Nat} {SH : SHT} {ι : α → Option Value × St} {av : List Value} {σ : St} {o : Option α} (hy : plainName y.cls = true) (hM : M.1 = y.cls)
    (hlen : ∀ E, (lg_sl (cvs E av)).length ≤ M.2.2.1) (h : VF M d SH ι 0 (lv_args 0 av) [] σ o) : CT y M d SH ι av σ o := by
  intro z hz l E hE
  refine Met.ofW (cc := M.2.1) (maxL := M.2.2.1) (ret := M.2.2.2) hy rfl ?_
  intro p e s m args below meth c s₁ B hml hv
  obtain ⟨rfl, hG, hP⟩ := hv
  have hts := atoms_spec (ws := .code y M.2.1 M.2.2.1 M.2.2.2 :: TB) B.pre
  have hown : s.vm.findClass M.1 = some m.cls := by rw [hM]; exact findClass_of_methodNamed B.named
  have hr := B.returns
  have hx := B.exec
  have hb := B.bytes
  have hl := lv_entry (cvs E av) (n := M.2.2.1) (hlen E)
  rw [lv_args_cv] at hl
  rw [lg_entry_eq]
  refine h z hz p l e _ s m _ below meth c E _ 0 0 ⟨hx, hb, hml, hown, fun w hw => hts w (List.mem_cons_of_mem _ hw), hE, hG, Nat.le_refl d, Nat.le_refl (200 * d)⟩ (Nat.zero_le _) (Nat.zero_le _) ?_ s.heap [] _ hP va_S.rf hl
  intro pc ls H locs hR hP2 hS
  generalize hvr : (ι z).1 = vr at hR ⊢
  generalize (ι z).2 = σr at hP2 ⊢
  cases vr with
  | none =>
    obtain ⟨r1, r2⟩ := hR
    exact W.vret hx hb (hr.trans r2) (fun t ht hW => ⟨⟨(), rfl, trivial, by show va_P _ _ _ t.heap; rw [ht]; exact hP2⟩, hS.F ht⟩) hS.2.2 r1 B.notSynchronized
  | some v =>
    cases v with
    | int v =>
      obtain ⟨r1, ty, r2, r3⟩ := hR
      exact W.zret hx hb (hr.trans r2) r3 (fun t ht hW => ⟨⟨v, (), rfl, rfl, by show va_P _ _ _ t.heap; rw [ht]; exact hP2⟩, hS.F ht⟩) hS.2.2 r1 B.notSynchronized
    | long v =>
      obtain ⟨r1, r2⟩ := hR
      exact W.lret hx hb (hr.trans r2) (fun t ht hW => ⟨⟨v, (), rfl, rfl, by show va_P _ _ _ t.heap; rw [ht]; exact hP2⟩, hS.F ht⟩) hS.2.2 r1 B.notSynchronized
    | ref k =>
      obtain ⟨r1, n, r2⟩ := hR
      exact W.aret hx hb (hr.trans r2) (Or.inl ⟨n, rfl⟩) (Or.inr ⟨_, rfl⟩) (fun t ht hW => ⟨⟨(), E.1 k, rfl, trivial, rfl, by show va_P _ _ _ t.heap; rw [ht]; exact hP2⟩, hS.F ht⟩) hS.2.2 r1 B.notSynchronized
    | _ => exact hR.elim
def cb {κ α : Type} (o : Option (κ × St)) (f : κ → St → Option α) : Option α := match o with
  | none => none
  | some q => f q.1 q.2
def cw {α : Type} (o : Option St) (f : St → Option α) : Option α := match o with
  | none => none
  | some q => f q
def cp {κ α : Type} (o : Option κ) (f : κ → Option α) : Option α := match o with
  | none => none
  | some q => f q
/-- what the tables say of a callee -/
theorem GC.good {y : MethodName} {My : MC} {n : Nat} (h : GC y My n) : GoodIn TB (.code y My.2.1 My.2.2.1 My.2.2.2 :: TB) := fun w hw => by
  rcases List.mem_cons.mp hw with rfl | hw
  · exact TB_good _ h.1
  · exact TB_good _ hw
theorem cvs_app (E : En) (a b : List Value) : cvs E (a ++ b) = cvs E a ++ cvs E b := List.map_append
theorem cvs_rev (E : En) (a : List Value) : cvs E a.reverse = (cvs E a).reverse := by simp [cvs]
section VCALL
variable {α : Type} {M : MC} {d : Nat} {SH : SHT} {ι : α → Option Value × St} {pc : Nat} {L : List (Nat × Value)} {st : List Value} {σ : St}
variable {β : Type} {y : MethodName} {My : MC} {d' idx n : Nat} {ιy : β → Option Value × St} {as stk : List Value} {oy : Option β}
/-- a run of the callee, in the caller -/
def RunQ (M : MC) (d : Nat) (SH : SHT) (pc : Nat) (L : List (Nat × Value)) (stk st : List Value) (σ : St) (vr : Option Value) (σr : St) : Prop :=
  ∀ (p : Program) (l : Launch) (e : Env) (R : Room) (s : State) (m : MethodId) (args : Array Value) (below : List Frame) (meth : Method) (c : Code) (E : En) (cells slots : Nat), Cx M d SH p R s m args meth c E → cells ≤ R.cells → slots ≤ R.slots →
    ∀ (H : Heap) (locs : List Loc) (ls : Array Slot), va_P E.2.1 vwCl (wd E SH σ) H → va_S (Aw E SH) s.heap H locs → lv_has ls M.2.2.1 (cvL E L) →
      ∃ a : Array Value, va_Run p l e R s m args below meth c H locs cells slots 0 0 (F0 m pc ls (cvs E stk)) (cvs E st) (QR E SH vr σr a) (Aw E SH)
theorem run_room {R : Room} {My : MC} {d d' : Nat} (hn : My.2.2.1 ≤ 100) (hd : d' + 1 ≤ d) (h1 : d ≤ R.frames) (h2 : 200 * d ≤ R.locals) : (rmd d').frames + 1 ≤ R.frames ∧ 8 + (My.2.2.1 + 11) + (rmd d').locals ≤ R.locals := by
  constructor
  · show d' + 1 ≤ R.frames
    omega
  · show 8 + (My.2.2.1 + 11) + 200 * d' ≤ R.locals
    omega
theorem runV {k : Nat} (hd : decode M.2.1 pc = .ok (.invokevirtual idx, 3)) (hG : GV M.1 idx y My n) (hn : as.length = n) (hstk : stk = as.reverse ++ .ref k :: st) (hst : (st.map fun v => v.category).sum ≤ 8) (hdd : d' + 1 ≤ d)
    (hrecv : ∀ (s : State) (E : En) (H : Heap) (locs : List Loc), Gk E SH.2 (Aw E SH) s s.heap → va_P E.2.1 vwCl (wd E SH σ) H → va_S (Aw E SH) s.heap H locs → ∃ cellB : Cell, H[E.1 k]? = some cellB ∧ cellB.vm.isStatics = false ∧ s.vm.findClass y.cls = some cellB.cls)
    (hc : CT y My d' SH ιy (.ref k :: as) σ oy) {z : β} (hz : oy = some z) : RunQ M d SH pc L stk st σ (ιy z).1 (ιy z).2 := by
  intro p l e R s m args below meth c E cells slots C hcc hss H locs ls hP hS hL
  obtain ⟨⟨g1, g2, g3, g4, g5, g6⟩, g7, g8, g9⟩ := hG
  have hts := C.2.2.2.2.1
  have hM := hc z hz l E C.2.2.2.2.2.1
  have hws : GoodIn TB (wsV M.1 idx y.cls y (.code y My.2.1 My.2.2.1 My.2.2.2 :: TB)) := fun w hw => by
    unfold wsV at hw
    rcases List.mem_append.mp hw with h | h
    · simp only [List.mem_cons, List.not_mem_nil, or_false] at h
      rcases h with rfl | rfl | rfl | rfl
      · exact TB_good _ g7
      · exact TB_good _ g8
      · exact TB_good _ g9
      · exact TB_good _ g2
    · exact GC.good ⟨g1, g2, g3, g4, g5, g6⟩ w h
  refine ⟨_, va_runV (nL := M.2.2.1) (As := cvs E as) (rest := cvs E st) (b := E.1 k) ⟨C.1, C.2.1, C.2.2.1, C.2.2.2.1, hts⟩ hM (cwV n hts hws rfl rfl rfl ⟨rfl, g3, g4, g5⟩ (run_room g6 hdd C.2.2.2.2.2.2.2.1 C.2.2.2.2.2.2.2.2)) ⟨PB_blind _, hrecv s E H locs C.2.2.2.2.2.2.1 hP hS, fun U hU hW => ⟨rfl, ?_, ?_⟩⟩ rfl (by rw [← hn]; simp [cvs]) hL.1 ?_ (lv_room (by
      have : ((cvs E st).map fun v => v.category) = st.map fun v => v.category := by
        unfold cvs
        rw [List.map_map]
        exact List.map_congr_left (fun v _ => cv_cat E v)
      rw [this]; exact hst)) hd ⟨hcc, hss⟩⟩
  · exact Gk.kept (H := s.heap) (fun a h1 h2 => by rw [hU]; exact hS.2.1 a h1 h2) (Gk.warm hW C.2.2.2.2.2.2.1)
  · show va_P _ _ _ U.heap
    rw [hU]; exact hP
  · show cvs E stk = _
    rw [hstk, cvs_app, cvs_rev]
    rfl
theorem runT (hd : decode M.2.1 pc = .ok (.invokestatic idx, 3)) (hG : GT M.1 idx y My n) (hn : as.length = n) (hstk : stk = as.reverse ++ st) (hst : (st.map fun v => v.category).sum ≤ 8) (hdd : d' + 1 ≤ d)
    (hc : CT y My d' SH ιy as σ oy) {z : β} (hz : oy = some z) : RunQ M d SH pc L stk st σ (ιy z).1 (ιy z).2 := by
  intro p l e R s m args below meth c E cells slots C hcc hss H locs ls hP hS hL
  obtain ⟨⟨g1, g2, g3, g4, g5, g6⟩, g7, g8⟩ := hG
  have hts := C.2.2.2.2.1
  have hM := hc z hz l E C.2.2.2.2.2.1
  have hpre : PreS s H (va_Pc (cvs E as) (PB E SH σ)) (cvs E as) := ⟨PB_blind _, fun U hU hW => ⟨rfl, Gk.kept (H := s.heap) (fun a h1 h2 => by rw [hU]; exact hS.2.1 a h1 h2) (Gk.warm hW C.2.2.2.2.2.2.1), by show va_P _ _ _ U.heap; rw [hU]; exact hP⟩⟩
  have hcat : 2 * (F0 m pc ls (cvs E stk)).monitorRoom + ((cvs E st).map fun v => v.category).sum ≤ 8 := lv_room (by
      have : ((cvs E st).map fun v => v.category) = st.map fun v => v.category := by
        unfold cvs
        rw [List.map_map]
        exact List.map_congr_left (fun v _ => cv_cat E v)
      rw [this]; exact hst)
  have hstk' : (F0 m pc ls (cvs E stk)).stack = (cvs E as).reverse ++ cvs E st := by
    show cvs E stk = _
    rw [hstk, cvs_app, cvs_rev]
  rcases g8 with g8 | ⟨host, g8⟩
  · have hws : GoodIn TB (va_wsS M.1 idx y (.code y My.2.1 My.2.2.1 My.2.2.2 :: TB)) := fun w hw => by
      unfold va_wsS at hw
      rcases List.mem_append.mp hw with h | h
      · simp only [List.mem_cons, List.not_mem_nil, or_false] at h
        rcases h with rfl | rfl | rfl
        · exact TB_good _ g8
        · exact TB_good _ g7
        · exact TB_good _ g2
      · exact GC.good ⟨g1, g2, g3, g4, g5, g6⟩ w h
    exact ⟨_, va_runS (nL := M.2.2.1) (As := cvs E as) (rest := cvs E st) ⟨C.1, C.2.1, C.2.2.1, C.2.2.2.1, hts⟩ hM (va_cwS n hts hws rfl rfl rfl ⟨g3, g4, g5⟩ (run_room g6 hdd C.2.2.2.2.2.2.2.1 C.2.2.2.2.2.2.2.2)) hpre rfl (by rw [← hn]; simp [cvs]) hL.1 hstk' hcat hd ⟨hcc, hss⟩⟩
  · have hnw : va_Nw (.methodLinkNest M.1 idx y host) s := C.2.2.2.2.2.2.1.2.2.2.2.2.2.1 _ g8
    exact ⟨_, va_runSN (nL := M.2.2.1) (Ts := TB) (As := cvs E as) (rest := cvs E st) ⟨C.1, C.2.1, C.2.2.1, C.2.2.2.1, hts⟩ hM ⟨va_cnB n hts (GC.good ⟨g1, g2, g3, g4, g5, g6⟩) rfl rfl rfl hnw (hts _ g2) ⟨g3, g4, g5⟩ (run_room g6 hdd C.2.2.2.2.2.2.2.1 C.2.2.2.2.2.2.2.2), hts _ g7, trivial⟩ hpre rfl (by rw [← hn]; simp [cvs]) hL.1 hstk' hcat hd ⟨hcc, hss⟩⟩
theorem onI {r : Int32} {σr : St} {o : Option α} (h : RunQ M d SH pc L stk st σ (some (.int r)) σr) (kk : VF M d SH ι (pc + 3) L (.int r :: st) σr o) : VF M d SH ι pc L stk σ o := by
  intro z hz p l e R s m args below meth c E Q cells slots C hc hs F H locs ls hP hS hL
  obtain ⟨a, hr⟩ := h p l e R s m args below meth c E cells slots C hc hs H locs ls hP hS hL
  refine va_calli (Q := Q) (a := a) hr hS (fun _ _ q => q) (fun _ q => q) (fun r' u t H1 locs1 ht hvm hw hB hz1 hk1 hS1 => ?_)
  cases hw
  have hB : va_P _ _ _ t.heap := hB
  rw [ht] at hB
  exact kk z hz p l e R s m args below meth c E Q cells slots C hc hs F H1 locs1 ls hB hS1 hL
theorem onL {r : Int64} {σr : St} {o : Option α} (h : RunQ M d SH pc L stk st σ (some (.long r)) σr) (kk : VF M d SH ι (pc + 3) L (.long r :: st) σr o) : VF M d SH ι pc L stk σ o := by
  intro z hz p l e R s m args below meth c E Q cells slots C hc hs F H locs ls hP hS hL
  obtain ⟨a, hr⟩ := h p l e R s m args below meth c E cells slots C hc hs H locs ls hP hS hL
  refine va_calll (Q := Q) (a := a) hr hS (fun _ _ q => q) (fun _ q => q) (fun r' u t H1 locs1 ht hvm hw hB hz1 hk1 hS1 => ?_)
  cases hw
  have hB : va_P _ _ _ t.heap := hB
  rw [ht] at hB
  exact kk z hz p l e R s m args below meth c E Q cells slots C hc hs F H1 locs1 ls hB hS1 hL
theorem onV {σr : St} {o : Option α} (h : RunQ M d SH pc L stk st σ none σr) (kk : VF M d SH ι (pc + 3) L st σr o) : VF M d SH ι pc L stk σ o := by
  intro z hz p l e R s m args below meth c E Q cells slots C hc hs F H locs ls hP hS hL
  obtain ⟨a, hr⟩ := h p l e R s m args below meth c E cells slots C hc hs H locs ls hP hS hL
  refine va_callv (Q := Q) (a := a) hr hS (fun _ _ q => q) (fun _ q => q) (fun u t H1 locs1 ht hvm hw hB hz1 hk1 hS1 => ?_)
  have hB : va_P _ _ _ t.heap := hB
  rw [ht] at hB
  exact kk z hz p l e R s m args below meth c E Q cells slots C hc hs F H1 locs1 ls hB hS1 hL
theorem onR {r : Nat} {σr : St} {o : Option α} (h : RunQ M d SH pc L stk st σ (some (.ref r)) σr) (kk : VF M d SH ι (pc + 3) L (.ref r :: st) σr o) : VF M d SH ι pc L stk σ o := by
  intro z hz p l e R s m args below meth c E Q cells slots C hc hs F H locs ls hP hS hL
  obtain ⟨a, hr⟩ := h p l e R s m args below meth c E cells slots C hc hs H locs ls hP hS hL
  refine va_callr (Q := Q) (a := a) hr hS (fun _ _ q => q) (fun _ q => q) (fun u a' t H1 locs1 ht hvm hw hB hz1 hk1 hS1 => ?_)
  obtain ⟨rfl, hB⟩ := hB
  have hB : va_P _ _ _ t.heap := hB
  rw [ht] at hB
  exact kk z hz p l e R s m args below meth c E Q cells slots C hc hs F H1 locs1 ls hB hS1 hL
/-- the receiver is a cell of the world -/
theorem recvW {ci k : Nat} {fs : List (Option (Option Nat))} {q : vw_C} (hs : SH.1[k]? = some (.inl (ci, fs))) (hq : vwCl[ci]? = some q) (hy : q.1 = y.cls) : ∀ (s : State) (E : En) (H : Heap) (locs : List Loc), Gk E SH.2 (Aw E SH) s s.heap → va_P E.2.1 vwCl (wd E SH σ) H → va_S (Aw E SH) s.heap H locs → ∃ cellB : Cell, H[E.1 k]? = some cellB ∧ cellB.vm.isStatics = false ∧ s.vm.findClass y.cls = some cellB.cls :=
  fun s E H locs hG hP hS => by rw [← hy]; exact va_recv hG.1 hP hq (wd_get hs)
theorem recvS {i k : Nat} (hi : i < 16) (hk : k = 2000 + i) (hy : y.cls = "java/lang/String") : ∀ (s : State) (E : En) (H : Heap) (locs : List Loc), Gk E SH.2 (Aw E SH) s s.heap → va_P E.2.1 vwCl (wd E SH σ) H → va_S (Aw E SH) s.heap H locs → ∃ cellB : Cell, H[E.1 k]? = some cellB ∧ cellB.vm.isStatics = false ∧ s.vm.findClass y.cls = some cellB.cls :=
  fun s E H locs hG hP hS => by rw [hy, hk]; exact vk_recv (i := i) (adK := fun i => E.1 (2000 + i)) hG.2.2.2.2.1 hi hS
theorem runVS {k : Nat} (hd : decode M.2.1 pc = .ok (.invokevirtual idx, 3)) (hG : GV M.1 idx y My n) (hn : as.length = n) (hstk : stk = as.reverse ++ .ref k :: st) (hst : (st.map fun v => v.category).sum ≤ 8) (hdd : d' + 1 ≤ d) (hy : y.cls = "java/lang/String")
    (hc : CT y My d' SH ιy (.ref k :: as) σ oy) (hr : ∀ z, oy = some z → ∃ i, i < 16 ∧ k = 2000 + i) {z : β} (hz : oy = some z) : RunQ M d SH pc L stk st σ (ιy z).1 (ιy z).2 := by
  obtain ⟨i, hi, hk⟩ := hr z hz
  exact runV hd hG hn hstk hst hdd (recvS hi hk hy) hc hz
end VCALL
section VCALL2
variable {α : Type} {M : MC} {d : Nat} {SH : SHT} {ι : α → Option Value × St} {pc : Nat} {L : List (Nat × Value)} {st stk : List Value} {σ : St}
theorem v_cbI {o : Option (Int32 × St)} {f : Int32 → St → Option α} (h : ∀ z, o = some z → RunQ M d SH pc L stk st σ (some (.int z.1)) z.2) (kk : ∀ r σ', VF M d SH ι (pc + 3) L (.int r :: st) σ' (f r σ')) : VF M d SH ι pc L stk σ (cb o f) := by
  cases o with
  | none => exact v_none
  | some q => exact onI (h q rfl) (kk q.1 q.2)
theorem v_cbL {o : Option (Int64 × St)} {f : Int64 → St → Option α} (h : ∀ z, o = some z → RunQ M d SH pc L stk st σ (some (.long z.1)) z.2) (kk : ∀ r σ', VF M d SH ι (pc + 3) L (.long r :: st) σ' (f r σ')) : VF M d SH ι pc L stk σ (cb o f) := by
  cases o with
  | none => exact v_none
  | some q => exact onL (h q rfl) (kk q.1 q.2)
theorem v_cw {o : Option St} {f : St → Option α} (h : ∀ z, o = some z → RunQ M d SH pc L stk st σ none z) (kk : ∀ σ', VF M d SH ι (pc + 3) L st σ' (f σ')) : VF M d SH ι pc L stk σ (cw o f) := by
  cases o with
  | none => exact v_none
  | some q => exact onV (h q rfl) (kk q)
theorem v_cpI {o : Option Int32} {f : Int32 → Option α} (h : ∀ z, o = some z → RunQ M d SH pc L stk st σ (some (.int z)) σ) (kk : ∀ r, VF M d SH ι (pc + 3) L (.int r :: st) σ (f r)) : VF M d SH ι pc L stk σ (cp o f) := by
  cases o with
  | none => exact v_none
  | some q => exact onI (h q rfl) (kk q)
theorem v_cpL {o : Option Int64} {f : Int64 → Option α} (h : ∀ z, o = some z → RunQ M d SH pc L stk st σ (some (.long z)) σ) (kk : ∀ r, VF M d SH ι (pc + 3) L (.long r :: st) σ (f r)) : VF M d SH ι pc L stk σ (cp o f) := by
  cases o with
  | none => exact v_none
  | some q => exact onL (h q rfl) (kk q)
theorem v_cpR {o : Option Nat} {f : Nat → Option α} (h : ∀ z, o = some z → RunQ M d SH pc L stk st σ (some (.ref z)) σ) (kk : ∀ r, VF M d SH ι (pc + 3) L (.ref r :: st) σ (f r)) : VF M d SH ι pc L stk σ (cp o f) := by
  cases o with
  | none => exact v_none
  | some q => exact onR (h q rfl) (kk q)
theorem v_cpU {o : Option Unit} {f : Option α} (h : ∀ z, o = some z → RunQ M d SH pc L stk st σ none σ) (kk : VF M d SH ι (pc + 3) L st σ f) : VF M d SH ι pc L stk σ (cp o (fun _ => f)) := by
  cases o with
  | none => exact v_none
  | some q => exact onV (h q rfl) kk
end VCALL2
end
section
/-! String's own methods over the constants -/
theorem ib_nI {x : Int32} {n : Nat} (h : ib x n = true) (hn : n < 2 ^ 31) : ∃ j : Nat, j < n ∧ x = nI j := vp_in_of (ib_in h) hn
theorem ct_J0_coder {SH : SHT} (i : Nat) (hi : i < 16) (s0 : St) : CT yJ0_coder_7d493 mJ0_coder_7d493 0 SH (jP s0) [.ref (2000 + i)] s0 (some 0) := CT.of (by decide +kernel) rfl (fun E => Nat.le_of_ble_eq_true rfl) (show VF mJ0_coder_7d493 0 SH (jP s0) 0 [(0, .ref (2000 + i))] [] s0 (some 0) from by
  refine v_compact dJ0_coder_7d493_0 kb_J0_38 ?_
  refine v_ite (c := (1 : Int32) = 0) (by decide) (v_if_eq (tgt := 13) dJ0_coder_7d493_3 (by decide) (fun h => absurd h (by decide)) (fun _ => ?_))
  refine v_aload_n dJ0_coder_7d493_6 rfl rfl ?_
  refine v_strcod dJ0_coder_7d493_7 kb_J0_15 hi rfl ?_
  refine v_goto (tgt := 14) dJ0_coder_7d493_10 (by decide) ?_
  exact v_ret (ty := .byte) dJ0_coder_7d493_14 rfl rfl (by decide +kernel))
theorem ct_J0_isLatin1 {SH : SHT} (i : Nat) (hi : i < 16) (s0 : St) : CT yJ0_isLatin1_aae02 mJ0_isLatin1_aae02 0 SH (jP s0) [.ref (2000 + i)] s0 (some 1) := CT.of (by decide +kernel) rfl (fun E => Nat.le_of_ble_eq_true rfl) (show VF mJ0_isLatin1_aae02 0 SH (jP s0) 0 [(0, .ref (2000 + i))] [] s0 (some 1) from by
  refine v_compact dJ0_isLatin1_aae02_0 kb_J0_38 ?_
  refine v_ite (c := (1 : Int32) = 0) (by decide) (v_if_eq (tgt := 17) dJ0_isLatin1_aae02_3 (by decide) (fun h => absurd h (by decide)) (fun _ => ?_))
  refine v_aload_n dJ0_isLatin1_aae02_6 rfl rfl ?_
  refine v_strcod dJ0_isLatin1_aae02_7 kb_J0_15 hi rfl ?_
  refine v_itt (c := (0 : Int32) = 0) rfl (v_if_ne (tgt := 17) dJ0_isLatin1_aae02_10 (by decide) (fun h => absurd rfl h) (fun _ => ?_))
  refine v_iconst (v := 1) dJ0_isLatin1_aae02_13 (by decide +kernel) ?_
  refine v_goto (tgt := 18) dJ0_isLatin1_aae02_14 (by decide) ?_
  exact v_ret (ty := .boolean) dJ0_isLatin1_aae02_18 rfl rfl (by decide +kernel))
theorem str_shr : ∀ i, i < 16 → Int32.ofNat (strN.getD i 0) >>> ((0 : Int32) &&& 31) = Int32.ofNat (strN.getD i 0) := by decide +kernel
def f_J0_length_8abf5 (r : Nat) : Option Int32 := if 2000 ≤ r ∧ r < 2016 then some (Int32.ofNat (strN.getD (r - 2000) 0)) else none
theorem str_len {r : Nat} : ∀ z, f_J0_length_8abf5 r = some z → ∃ i, i < 16 ∧ r = 2000 + i := by
  intro z hz
  unfold f_J0_length_8abf5 at hz
  split at hz
  · exact ⟨r - 2000, by omega, by omega⟩
  · cases hz
theorem ct_J0_length_8abf5 {SH : SHT} (r : Nat) (s0 : St) : CT yJ0_length_8abf5 mJ0_length_8abf5 3 SH (jP s0) [.ref r] s0 (f_J0_length_8abf5 r) := by
  intro z hz
  obtain ⟨i, hi, rfl⟩ := str_len z hz
  have e : f_J0_length_8abf5 (2000 + i) = some (Int32.ofNat (strN.getD i 0) >>> ((0 : Int32) &&& 31)) := by
    unfold f_J0_length_8abf5
    rw [if_pos (by omega), str_shr i hi, show 2000 + i - 2000 = i by omega]
  rw [e] at hz
  refine CT.of (by decide +kernel) rfl (fun E => Nat.le_of_ble_eq_true rfl) (show VF mJ0_length_8abf5 3 SH (jP s0) 0 [(0, .ref (2000 + i))] [] s0 (some (Int32.ofNat (strN.getD i 0) >>> ((0 : Int32) &&& 31))) from ?_) z hz
  refine v_aload_n dJ0_length_8abf5_0 rfl rfl ?_
  refine v_strval dJ0_length_8abf5_1 kb_J0_9 hi rfl ?_
  refine v_strlen dJ0_length_8abf5_4 hi ?_
  refine v_aload_n dJ0_length_8abf5_5 rfl rfl ?_
  refine onI (runV (as := []) dJ0_length_8abf5_6 kv_J0_335 rfl rfl (Nat.le_of_ble_eq_true rfl) (Nat.le_of_ble_eq_true rfl) (recvS hi rfl rfl) (ct_J0_coder i hi s0) rfl) ?_
  refine v_ishr dJ0_length_8abf5_9 ?_
  exact v_ret (ty := .int) dJ0_length_8abf5_10 rfl rfl rfl
theorem ct_J3_checkIndex {SH : SHT} (x y : Int32) (q : Value) (hq : q = .null ∨ q = .ref 4000) (h0 : ¬ x < 0) (h1 : x < y) (s0 : St) : CT yJ3_checkIndex_8e157 mJ3_checkIndex_8e157 0 SH (jP s0) [.int x, .int y, q] s0 (some x) := by
  rcases hq with rfl | rfl
  · refine CT.of (by decide +kernel) rfl (fun E => Nat.le_of_ble_eq_true rfl) (show VF mJ3_checkIndex_8e157 0 SH (jP s0) 0 [(0, .int x), (1, .int y), (2, .null)] [] s0 (some x) from ?_)
    refine v_iload_n dJ3_checkIndex_8e157_0 rfl rfl ?_
    refine v_ite (c := x < 0) h0 (v_if_lt (tgt := 9) dJ3_checkIndex_8e157_1 (by decide) (fun h => absurd h h0) (fun _ => ?_))
    refine v_iload_n dJ3_checkIndex_8e157_4 rfl rfl ?_
    refine v_iload_n dJ3_checkIndex_8e157_5 rfl rfl ?_
    refine v_itt (c := x < y) h1 (v_icmp_lt (tgt := 16) dJ3_checkIndex_8e157_6 (by decide) (fun _ => ?_) (fun h => absurd h1 h))
    refine v_iload_n dJ3_checkIndex_8e157_16 rfl rfl ?_
    exact v_ret (ty := .int) dJ3_checkIndex_8e157_17 rfl rfl rfl
  · refine CT.of (by decide +kernel) rfl (fun E => Nat.le_of_ble_eq_true rfl) (show VF mJ3_checkIndex_8e157 0 SH (jP s0) 0 [(0, .int x), (1, .int y), (2, .ref 4000)] [] s0 (some x) from ?_)
    refine v_iload_n dJ3_checkIndex_8e157_0 rfl rfl ?_
    refine v_ite (c := x < 0) h0 (v_if_lt (tgt := 9) dJ3_checkIndex_8e157_1 (by decide) (fun h => absurd h h0) (fun _ => ?_))
    refine v_iload_n dJ3_checkIndex_8e157_4 rfl rfl ?_
    refine v_iload_n dJ3_checkIndex_8e157_5 rfl rfl ?_
    refine v_itt (c := x < y) h1 (v_icmp_lt (tgt := 16) dJ3_checkIndex_8e157_6 (by decide) (fun _ => ?_) (fun h => absurd h1 h))
    refine v_iload_n dJ3_checkIndex_8e157_16 rfl rfl ?_
    exact v_ret (ty := .int) dJ3_checkIndex_8e157_17 rfl rfl rfl
theorem ct_J0_checkIndex {SH : SHT} (x y : Int32) (h0 : ¬ x < 0) (h1 : x < y) (s0 : St) : CT yJ0_checkIndex_df160 mJ0_checkIndex_df160 1 SH (jU s0) [.int x, .int y] s0 (some ()) := CT.of (by decide +kernel) rfl (fun E => Nat.le_of_ble_eq_true rfl) (show VF mJ0_checkIndex_df160 1 SH (jU s0) 0 [(0, .int x), (1, .int y)] [] s0 (some ()) from by
  refine v_iload_n dJ0_checkIndex_df160_0 rfl rfl ?_
  refine v_iload_n dJ0_checkIndex_df160_1 rfl rfl ?_
  refine v_getq dJ0_checkIndex_df160_2 kb_J0_1053 ?_ ?_
  · refine onI (runT (as := [.int x, .int y, .null]) dJ0_checkIndex_df160_5 kt_J0_1059 rfl rfl (Nat.le_of_ble_eq_true rfl) (Nat.le_of_ble_eq_true rfl) (ct_J3_checkIndex x y _ (Or.inl rfl) h0 h1 s0) rfl) ?_
    refine v_pop dJ0_checkIndex_df160_8 rfl ?_
    exact v_vret dJ0_checkIndex_df160_9 rfl rfl
  · refine onI (runT (as := [.int x, .int y, .ref 4000]) dJ0_checkIndex_df160_5 kt_J0_1059 rfl rfl (Nat.le_of_ble_eq_true rfl) (Nat.le_of_ble_eq_true rfl) (ct_J3_checkIndex x y _ (Or.inr rfl) h0 h1 s0) rfl) ?_
    refine v_pop dJ0_checkIndex_df160_8 rfl ?_
    exact v_vret dJ0_checkIndex_df160_9 rfl rfl)
theorem str_c : ∀ i, i < 16 → ∀ j, j < strN.getD i 0 → ((((strB.getD i []).getD j 0) &&& 255).toUInt32 % 65536).toInt32 = ((strB.getD i []).getD j 0) &&& 255 ∧ narrow .char (.int (((strB.getD i []).getD j 0) &&& 255)) = .int (((strB.getD i []).getD j 0) &&& 255) := by decide +kernel
theorem str_n : ∀ i, i < 16 → strN.getD i 0 < 2 ^ 31 := by decide +kernel
theorem ct_J1_charAt {SH : SHT} (i : Nat) (hi : i < 16) (x : Int32) (hx : ib x (strN.getD i 0) = true) (s0 : St) : CT yJ1_charAt_3b067 mJ1_charAt_3b067 2 SH (jP s0) [.ref (3000 + i), .int x] s0 (some (((strB.getD i []).getD (ix x) 0) &&& 255)) := CT.of (by decide +kernel) rfl (fun E => Nat.le_of_ble_eq_true rfl) (show VF mJ1_charAt_3b067 2 SH (jP s0) 0 [(0, .ref (3000 + i)), (1, .int x)] [] s0 (some (((strB.getD i []).getD (ix x) 0) &&& 255)) from by
  obtain ⟨j, hj, ej⟩ := ib_nI hx (str_n i hi)
  have h0 : ¬ x < 0 := by rw [ej]; exact nI_pos (Nat.lt_trans hj (str_n i hi))
  have h1 : x < Int32.ofNat (strN.getD i 0) := by rw [ej]; exact nI_lt hj (str_n i hi)
  have hc := str_c i hi (ix x) (ib_lt hx)
  refine v_iload_n dJ1_charAt_3b067_0 rfl rfl ?_
  refine v_aload_n dJ1_charAt_3b067_1 rfl rfl ?_
  refine v_strlen dJ1_charAt_3b067_2 hi ?_
  refine onV (runT (as := [.int x, .int (Int32.ofNat (strN.getD i 0))]) dJ1_charAt_3b067_3 kt_J1_9 rfl rfl (Nat.le_of_ble_eq_true rfl) (Nat.le_of_ble_eq_true rfl) (ct_J0_checkIndex x _ h0 h1 s0) rfl) ?_
  refine v_aload_n dJ1_charAt_3b067_6 rfl rfl ?_
  refine v_iload_n dJ1_charAt_3b067_7 rfl rfl ?_
  refine v_strbal dJ1_charAt_3b067_8 hi hx ?_
  refine v_sipush (v := 255) dJ1_charAt_3b067_9 (by decide +kernel) ?_
  refine v_iand dJ1_charAt_3b067_12 ?_
  refine v_i2c dJ1_charAt_3b067_13 ?_
  rw [hc.1]
  exact v_ret (ty := .char) dJ1_charAt_3b067_14 rfl rfl hc.2)
def f_J0_charAt_5068e (r : Nat) (a1 : Int32) : Option Int32 := if 2000 ≤ r ∧ r < 2016 ∧ ib a1 (strN.getD (r - 2000) 0) = true then some (((strB.getD (r - 2000) []).getD (ix a1) 0) &&& 255) else none
theorem str_chr {r : Nat} {a1 : Int32} : ∀ z, f_J0_charAt_5068e r a1 = some z → ∃ i, i < 16 ∧ r = 2000 + i := by
  intro z hz
  unfold f_J0_charAt_5068e at hz
  split at hz
  · exact ⟨r - 2000, by omega, by omega⟩
  · cases hz
theorem ct_J0_charAt_5068e {SH : SHT} (r : Nat) (a1 : Int32) (s0 : St) : CT yJ0_charAt_5068e mJ0_charAt_5068e 4 SH (jP s0) [.ref r, .int a1] s0 (f_J0_charAt_5068e r a1) := by
  intro z hz
  have hz0 := hz
  unfold f_J0_charAt_5068e at hz
  split at hz
  case isFalse => cases hz
  case isTrue hh =>
    obtain ⟨g1, g2, g3⟩ := hh
    obtain ⟨i, hi, rfl⟩ := str_chr z hz0
    rw [show 2000 + i - 2000 = i by omega] at hz g3
    have hc := str_c i hi (ix a1) (ib_lt g3)
    refine CT.of (by decide +kernel) rfl (fun E => Nat.le_of_ble_eq_true rfl) (show VF mJ0_charAt_5068e 4 SH (jP s0) 0 [(0, .ref (2000 + i)), (1, .int a1)] [] s0 (some (((strB.getD i []).getD (ix a1) 0) &&& 255)) from ?_) z hz
    refine v_aload_n dJ0_charAt_5068e_0 rfl rfl ?_
    refine onI (runV (as := []) dJ0_charAt_5068e_1 kv_J0_492 rfl rfl (Nat.le_of_ble_eq_true rfl) (Nat.le_of_ble_eq_true rfl) (recvS hi rfl rfl) (ct_J0_isLatin1 i hi s0) rfl) ?_
    refine v_ite (c := (1 : Int32) = 0) (by decide) (v_if_eq (tgt := 16) dJ0_charAt_5068e_4 (by decide) (fun h => absurd h (by decide)) (fun _ => ?_))
    refine v_aload_n dJ0_charAt_5068e_7 rfl rfl ?_
    refine v_strval dJ0_charAt_5068e_8 kb_J0_9 hi rfl ?_
    refine v_iload_n dJ0_charAt_5068e_11 rfl rfl ?_
    refine onI (runT (as := [.ref (3000 + i), .int a1]) dJ0_charAt_5068e_12 kt_J0_495 rfl rfl (Nat.le_of_ble_eq_true rfl) (Nat.le_of_ble_eq_true rfl) (ct_J1_charAt i hi a1 g3 s0) rfl) ?_
    exact v_ret (ty := .char) dJ0_charAt_5068e_15 rfl rfl hc.2
end
