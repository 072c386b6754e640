section
-- ===== PART A: goes FIRST, ahead of the names: the tables' words, and 'selects' of the private methods out of them =====
/-- a private method of a class that the tables say can be made, by its rows of tables_1 -/
def lw_okq (q : MethodName × Nat) : Prop := (q.1.cls ≠ "java/lang/invoke/MethodHandle" ∧ q.1.cls ≠ "java/lang/invoke/VarHandle") ∧ Cond.instantiable q.1.cls q.2 ∈ tables_1 ∧ Cond.privateMethod q.1 ∈ tables_1 ∧ Cond.instanceMethod q.1 ∈ tables_1
theorem lw_p0 : lw_okq (⟨"HeadsOfRings$Text", "findToken", "()V"⟩, 5) := ⟨⟨by decide +kernel, by decide +kernel⟩, List.mem_of_getElem? (i := 19) (by decide +kernel), List.mem_of_getElem? (i := 191) (by decide +kernel), List.mem_of_getElem? (i := 192) (by decide +kernel)⟩
theorem lw_p1 : lw_okq (⟨"HeadsOfRings$Text", "byteAt", "(I)I"⟩, 5) := ⟨⟨by decide +kernel, by decide +kernel⟩, List.mem_of_getElem? (i := 19) (by decide +kernel), List.mem_of_getElem? (i := 195) (by decide +kernel), List.mem_of_getElem? (i := 196) (by decide +kernel)⟩
theorem lw_p2 : lw_okq (⟨"HeadsOfRings$Text", "faultOfToken", "(ILHeadsOfRings$Ring;)I"⟩, 5) := ⟨⟨by decide +kernel, by decide +kernel⟩, List.mem_of_getElem? (i := 19) (by decide +kernel), List.mem_of_getElem? (i := 202) (by decide +kernel), List.mem_of_getElem? (i := 203) (by decide +kernel)⟩
theorem lw_p3 : lw_okq (⟨"HeadsOfRings$Text", "faultOfFigures", "(LHeadsOfRings$Ring;)I"⟩, 5) := ⟨⟨by decide +kernel, by decide +kernel⟩, List.mem_of_getElem? (i := 19) (by decide +kernel), List.mem_of_getElem? (i := 206) (by decide +kernel), List.mem_of_getElem? (i := 207) (by decide +kernel)⟩
theorem lw_p4 : lw_okq (⟨"HeadsOfRings$Text", "tokenValue", "()I"⟩, 5) := ⟨⟨by decide +kernel, by decide +kernel⟩, List.mem_of_getElem? (i := 19) (by decide +kernel), List.mem_of_getElem? (i := 210) (by decide +kernel), List.mem_of_getElem? (i := 211) (by decide +kernel)⟩
theorem lw_p5 : lw_okq (⟨"HeadsOfRings$Text", "takeToken", "(ILHeadsOfRings$Ring;)V"⟩, 5) := ⟨⟨by decide +kernel, by decide +kernel⟩, List.mem_of_getElem? (i := 19) (by decide +kernel), List.mem_of_getElem? (i := 222) (by decide +kernel), List.mem_of_getElem? (i := 223) (by decide +kernel)⟩
theorem lw_p6 : lw_okq (⟨"HeadsOfRings$Election", "setCell", "(III)V"⟩, 8) := ⟨⟨by decide +kernel, by decide +kernel⟩, List.mem_of_getElem? (i := 63) (by decide +kernel), List.mem_of_getElem? (i := 245) (by decide +kernel), List.mem_of_getElem? (i := 246) (by decide +kernel)⟩
theorem lw_p7 : lw_okq (⟨"HeadsOfRings$History", "keptAt", "(I)LHeadsOfRings$Election;"⟩, 3) := ⟨⟨by decide +kernel, by decide +kernel⟩, List.mem_of_getElem? (i := 97) (by decide +kernel), List.mem_of_getElem? (i := 294) (by decide +kernel), List.mem_of_getElem? (i := 295) (by decide +kernel)⟩
theorem lw_p8 : lw_okq (⟨"HeadsOfRings$Election", "sendRight", "(III)V"⟩, 8) := ⟨⟨by decide +kernel, by decide +kernel⟩, List.mem_of_getElem? (i := 63) (by decide +kernel), List.mem_of_getElem? (i := 316) (by decide +kernel), List.mem_of_getElem? (i := 317) (by decide +kernel)⟩
theorem lw_p9 : lw_okq (⟨"HeadsOfRings$Election", "send", "(IIIIII)V"⟩, 8) := ⟨⟨by decide +kernel, by decide +kernel⟩, List.mem_of_getElem? (i := 63) (by decide +kernel), List.mem_of_getElem? (i := 324) (by decide +kernel), List.mem_of_getElem? (i := 325) (by decide +kernel)⟩
theorem lw_p10 : lw_okq (⟨"HeadsOfRings$Election", "sendProbes", "(I)V"⟩, 8) := ⟨⟨by decide +kernel, by decide +kernel⟩, List.mem_of_getElem? (i := 63) (by decide +kernel), List.mem_of_getElem? (i := 328) (by decide +kernel), List.mem_of_getElem? (i := 329) (by decide +kernel)⟩
theorem lw_p11 : lw_okq (⟨"HeadsOfRings$Election", "draw", "(I)V"⟩, 8) := ⟨⟨by decide +kernel, by decide +kernel⟩, List.mem_of_getElem? (i := 63) (by decide +kernel), List.mem_of_getElem? (i := 332) (by decide +kernel), List.mem_of_getElem? (i := 333) (by decide +kernel)⟩
theorem lw_p12 : lw_okq (⟨"HeadsOfRings$Election", "takeInHand", "(I)V"⟩, 8) := ⟨⟨by decide +kernel, by decide +kernel⟩, List.mem_of_getElem? (i := 63) (by decide +kernel), List.mem_of_getElem? (i := 365) (by decide +kernel), List.mem_of_getElem? (i := 366) (by decide +kernel)⟩
theorem lw_p13 : lw_okq (⟨"HeadsOfRings$Election", "goesOn", "(I)Z"⟩, 8) := ⟨⟨by decide +kernel, by decide +kernel⟩, List.mem_of_getElem? (i := 63) (by decide +kernel), List.mem_of_getElem? (i := 376) (by decide +kernel), List.mem_of_getElem? (i := 377) (by decide +kernel)⟩
theorem lw_p14 : lw_okq (⟨"HeadsOfRings$Election", "getsPast", "(I)Z"⟩, 8) := ⟨⟨by decide +kernel, by decide +kernel⟩, List.mem_of_getElem? (i := 63) (by decide +kernel), List.mem_of_getElem? (i := 380) (by decide +kernel), List.mem_of_getElem? (i := 381) (by decide +kernel)⟩
theorem lw_p15 : lw_okq (⟨"HeadsOfRings$Election", "isRunning", "(I)Z"⟩, 8) := ⟨⟨by decide +kernel, by decide +kernel⟩, List.mem_of_getElem? (i := 63) (by decide +kernel), List.mem_of_getElem? (i := 384) (by decide +kernel), List.mem_of_getElem? (i := 385) (by decide +kernel)⟩
def lw_privs_1 : List (MethodName × Nat) := [(⟨"HeadsOfRings$Text", "findToken", "()V"⟩, 5), (⟨"HeadsOfRings$Text", "byteAt", "(I)I"⟩, 5), (⟨"HeadsOfRings$Text", "faultOfToken", "(ILHeadsOfRings$Ring;)I"⟩, 5), (⟨"HeadsOfRings$Text", "faultOfFigures", "(LHeadsOfRings$Ring;)I"⟩, 5), (⟨"HeadsOfRings$Text", "tokenValue", "()I"⟩, 5), (⟨"HeadsOfRings$Text", "takeToken", "(ILHeadsOfRings$Ring;)V"⟩, 5), (⟨"HeadsOfRings$Election", "setCell", "(III)V"⟩, 8), (⟨"HeadsOfRings$History", "keptAt", "(I)LHeadsOfRings$Election;"⟩, 3), (⟨"HeadsOfRings$Election", "sendRight", "(III)V"⟩, 8), (⟨"HeadsOfRings$Election", "send", "(IIIIII)V"⟩, 8), (⟨"HeadsOfRings$Election", "sendProbes", "(I)V"⟩, 8), (⟨"HeadsOfRings$Election", "draw", "(I)V"⟩, 8), (⟨"HeadsOfRings$Election", "takeInHand", "(I)V"⟩, 8), (⟨"HeadsOfRings$Election", "goesOn", "(I)Z"⟩, 8), (⟨"HeadsOfRings$Election", "getsPast", "(I)Z"⟩, 8), (⟨"HeadsOfRings$Election", "isRunning", "(I)Z"⟩, 8)]
theorem lw_r1 : ∀ q ∈ lw_privs_1, lw_okq q := List.forall_mem_cons.mpr ⟨lw_p0, List.forall_mem_cons.mpr ⟨lw_p1, List.forall_mem_cons.mpr ⟨lw_p2, List.forall_mem_cons.mpr ⟨lw_p3, List.forall_mem_cons.mpr ⟨lw_p4, List.forall_mem_cons.mpr ⟨lw_p5, List.forall_mem_cons.mpr ⟨lw_p6, List.forall_mem_cons.mpr ⟨lw_p7, List.forall_mem_cons.mpr ⟨lw_p8, List.forall_mem_cons.mpr ⟨lw_p9, List.forall_mem_cons.mpr ⟨lw_p10, List.forall_mem_cons.mpr ⟨lw_p11, List.forall_mem_cons.mpr ⟨lw_p12, List.forall_mem_cons.mpr ⟨lw_p13, List.forall_mem_cons.mpr ⟨lw_p14, List.forall_mem_cons.mpr ⟨lw_p15, fun _ h => absurd h List.not_mem_nil⟩⟩⟩⟩⟩⟩⟩⟩⟩⟩⟩⟩⟩⟩⟩⟩
theorem lw_p16 : lw_okq (⟨"HeadsOfRings$Election", "becomeHead", "(II)V"⟩, 8) := ⟨⟨by decide +kernel, by decide +kernel⟩, List.mem_of_getElem? (i := 63) (by decide +kernel), List.mem_of_getElem? (i := 388) (by decide +kernel), List.mem_of_getElem? (i := 389) (by decide +kernel)⟩
theorem lw_p17 : lw_okq (⟨"HeadsOfRings$Election", "probeGoesOn", "(I)Z"⟩, 8) := ⟨⟨by decide +kernel, by decide +kernel⟩, List.mem_of_getElem? (i := 63) (by decide +kernel), List.mem_of_getElem? (i := 392) (by decide +kernel), List.mem_of_getElem? (i := 393) (by decide +kernel)⟩
theorem lw_p18 : lw_okq (⟨"HeadsOfRings$Election", "replyGoesOn", "(I)Z"⟩, 8) := ⟨⟨by decide +kernel, by decide +kernel⟩, List.mem_of_getElem? (i := 63) (by decide +kernel), List.mem_of_getElem? (i := 397) (by decide +kernel), List.mem_of_getElem? (i := 398) (by decide +kernel)⟩
theorem lw_p19 : lw_okq (⟨"HeadsOfRings$Election", "markGoesOn", "(I)Z"⟩, 8) := ⟨⟨by decide +kernel, by decide +kernel⟩, List.mem_of_getElem? (i := 63) (by decide +kernel), List.mem_of_getElem? (i := 401) (by decide +kernel), List.mem_of_getElem? (i := 402) (by decide +kernel)⟩
theorem lw_p20 : lw_okq (⟨"HeadsOfRings$Election", "takeFirst", "(I)V"⟩, 8) := ⟨⟨by decide +kernel, by decide +kernel⟩, List.mem_of_getElem? (i := 63) (by decide +kernel), List.mem_of_getElem? (i := 405) (by decide +kernel), List.mem_of_getElem? (i := 406) (by decide +kernel)⟩
theorem lw_p21 : lw_okq (⟨"HeadsOfRings$Election", "takeSecond", "(I)V"⟩, 8) := ⟨⟨by decide +kernel, by decide +kernel⟩, List.mem_of_getElem? (i := 63) (by decide +kernel), List.mem_of_getElem? (i := 409) (by decide +kernel), List.mem_of_getElem? (i := 410) (by decide +kernel)⟩
theorem lw_p22 : lw_okq (⟨"HeadsOfRings$Election", "tokenGoesOn", "(I)Z"⟩, 8) := ⟨⟨by decide +kernel, by decide +kernel⟩, List.mem_of_getElem? (i := 63) (by decide +kernel), List.mem_of_getElem? (i := 413) (by decide +kernel), List.mem_of_getElem? (i := 414) (by decide +kernel)⟩
theorem lw_p23 : lw_okq (⟨"HeadsOfRings$Election", "tokenGetsPast", "(I)Z"⟩, 8) := ⟨⟨by decide +kernel, by decide +kernel⟩, List.mem_of_getElem? (i := 63) (by decide +kernel), List.mem_of_getElem? (i := 417) (by decide +kernel), List.mem_of_getElem? (i := 418) (by decide +kernel)⟩
theorem lw_p24 : lw_okq (⟨"HeadsOfRings$Election", "tokenComesHome", "(I)Z"⟩, 8) := ⟨⟨by decide +kernel, by decide +kernel⟩, List.mem_of_getElem? (i := 63) (by decide +kernel), List.mem_of_getElem? (i := 421) (by decide +kernel), List.mem_of_getElem? (i := 422) (by decide +kernel)⟩
theorem lw_p25 : lw_okq (⟨"HeadsOfRings$Election", "crownGoesOn", "(I)Z"⟩, 8) := ⟨⟨by decide +kernel, by decide +kernel⟩, List.mem_of_getElem? (i := 63) (by decide +kernel), List.mem_of_getElem? (i := 425) (by decide +kernel), List.mem_of_getElem? (i := 426) (by decide +kernel)⟩
theorem lw_p26 : lw_okq (⟨"HeadsOfRings$Election", "chosenLine", "(III)I"⟩, 8) := ⟨⟨by decide +kernel, by decide +kernel⟩, List.mem_of_getElem? (i := 63) (by decide +kernel), List.mem_of_getElem? (i := 437) (by decide +kernel), List.mem_of_getElem? (i := 438) (by decide +kernel)⟩
theorem lw_p27 : lw_okq (⟨"HeadsOfRings$Election", "leastBusyAfter", "(I)I"⟩, 8) := ⟨⟨by decide +kernel, by decide +kernel⟩, List.mem_of_getElem? (i := 63) (by decide +kernel), List.mem_of_getElem? (i := 441) (by decide +kernel), List.mem_of_getElem? (i := 442) (by decide +kernel)⟩
theorem lw_p28 : lw_okq (⟨"HeadsOfRings$Election", "greatestBusy", "()I"⟩, 8) := ⟨⟨by decide +kernel, by decide +kernel⟩, List.mem_of_getElem? (i := 63) (by decide +kernel), List.mem_of_getElem? (i := 446) (by decide +kernel), List.mem_of_getElem? (i := 447) (by decide +kernel)⟩
theorem lw_p29 : lw_okq (⟨"HeadsOfRings$Election", "nextBusyRound", "(I)I"⟩, 8) := ⟨⟨by decide +kernel, by decide +kernel⟩, List.mem_of_getElem? (i := 63) (by decide +kernel), List.mem_of_getElem? (i := 450) (by decide +kernel), List.mem_of_getElem? (i := 451) (by decide +kernel)⟩
theorem lw_p30 : lw_okq (⟨"HeadsOfRings$Election", "busyByNumber", "(I)I"⟩, 8) := ⟨⟨by decide +kernel, by decide +kernel⟩, List.mem_of_getElem? (i := 63) (by decide +kernel), List.mem_of_getElem? (i := 454) (by decide +kernel), List.mem_of_getElem? (i := 455) (by decide +kernel)⟩
theorem lw_p31 : lw_okq (⟨"HeadsOfRings$Foresight", "note", "(LHeadsOfRings$Election;)V"⟩, 6) := ⟨⟨by decide +kernel, by decide +kernel⟩, List.mem_of_getElem? (i := 117) (by decide +kernel), List.mem_of_getElem? (i := 522) (by decide +kernel), List.mem_of_getElem? (i := 523) (by decide +kernel)⟩
def lw_privs_2 : List (MethodName × Nat) := [(⟨"HeadsOfRings$Election", "becomeHead", "(II)V"⟩, 8), (⟨"HeadsOfRings$Election", "probeGoesOn", "(I)Z"⟩, 8), (⟨"HeadsOfRings$Election", "replyGoesOn", "(I)Z"⟩, 8), (⟨"HeadsOfRings$Election", "markGoesOn", "(I)Z"⟩, 8), (⟨"HeadsOfRings$Election", "takeFirst", "(I)V"⟩, 8), (⟨"HeadsOfRings$Election", "takeSecond", "(I)V"⟩, 8), (⟨"HeadsOfRings$Election", "tokenGoesOn", "(I)Z"⟩, 8), (⟨"HeadsOfRings$Election", "tokenGetsPast", "(I)Z"⟩, 8), (⟨"HeadsOfRings$Election", "tokenComesHome", "(I)Z"⟩, 8), (⟨"HeadsOfRings$Election", "crownGoesOn", "(I)Z"⟩, 8), (⟨"HeadsOfRings$Election", "chosenLine", "(III)I"⟩, 8), (⟨"HeadsOfRings$Election", "leastBusyAfter", "(I)I"⟩, 8), (⟨"HeadsOfRings$Election", "greatestBusy", "()I"⟩, 8), (⟨"HeadsOfRings$Election", "nextBusyRound", "(I)I"⟩, 8), (⟨"HeadsOfRings$Election", "busyByNumber", "(I)I"⟩, 8), (⟨"HeadsOfRings$Foresight", "note", "(LHeadsOfRings$Election;)V"⟩, 6)]
theorem lw_r2 : ∀ q ∈ lw_privs_2, lw_okq q := List.forall_mem_cons.mpr ⟨lw_p16, List.forall_mem_cons.mpr ⟨lw_p17, List.forall_mem_cons.mpr ⟨lw_p18, List.forall_mem_cons.mpr ⟨lw_p19, List.forall_mem_cons.mpr ⟨lw_p20, List.forall_mem_cons.mpr ⟨lw_p21, List.forall_mem_cons.mpr ⟨lw_p22, List.forall_mem_cons.mpr ⟨lw_p23, List.forall_mem_cons.mpr ⟨lw_p24, List.forall_mem_cons.mpr ⟨lw_p25, List.forall_mem_cons.mpr ⟨lw_p26, List.forall_mem_cons.mpr ⟨lw_p27, List.forall_mem_cons.mpr ⟨lw_p28, List.forall_mem_cons.mpr ⟨lw_p29, List.forall_mem_cons.mpr ⟨lw_p30, List.forall_mem_cons.mpr ⟨lw_p31, fun _ h => absurd h List.not_mem_nil⟩⟩⟩⟩⟩⟩⟩⟩⟩⟩⟩⟩⟩⟩⟩⟩
theorem lw_p32 : lw_okq (⟨"HeadsOfRingsModel", "reads", "()V"⟩, 31) := ⟨⟨by decide +kernel, by decide +kernel⟩, List.mem_of_getElem? (i := 573) (by decide +kernel), List.mem_of_getElem? (i := 687) (by decide +kernel), List.mem_of_getElem? (i := 688) (by decide +kernel)⟩
theorem lw_p33 : lw_okq (⟨"HeadsOfRingsModel", "isDigit", "(I)Z"⟩, 31) := ⟨⟨by decide +kernel, by decide +kernel⟩, List.mem_of_getElem? (i := 573) (by decide +kernel), List.mem_of_getElem? (i := 691) (by decide +kernel), List.mem_of_getElem? (i := 692) (by decide +kernel)⟩
theorem lw_p34 : lw_okq (⟨"HeadsOfRingsModel", "readsContender", "(I)I"⟩, 31) := ⟨⟨by decide +kernel, by decide +kernel⟩, List.mem_of_getElem? (i := 573) (by decide +kernel), List.mem_of_getElem? (i := 697) (by decide +kernel), List.mem_of_getElem? (i := 698) (by decide +kernel)⟩
theorem lw_p35 : lw_okq (⟨"HeadsOfRingsModel", "isTold", "(II)Z"⟩, 31) := ⟨⟨by decide +kernel, by decide +kernel⟩, List.mem_of_getElem? (i := 573) (by decide +kernel), List.mem_of_getElem? (i := 701) (by decide +kernel), List.mem_of_getElem? (i := 702) (by decide +kernel)⟩
theorem lw_p36 : lw_okq (⟨"HeadsOfRingsModel", "clears", "()V"⟩, 31) := ⟨⟨by decide +kernel, by decide +kernel⟩, List.mem_of_getElem? (i := 573) (by decide +kernel), List.mem_of_getElem? (i := 705) (by decide +kernel), List.mem_of_getElem? (i := 706) (by decide +kernel)⟩
theorem lw_p37 : lw_okq (⟨"HeadsOfRingsModel", "set", "(IIII)V"⟩, 31) := ⟨⟨by decide +kernel, by decide +kernel⟩, List.mem_of_getElem? (i := 573) (by decide +kernel), List.mem_of_getElem? (i := 709) (by decide +kernel), List.mem_of_getElem? (i := 710) (by decide +kernel)⟩
theorem lw_p38 : lw_okq (⟨"HeadsOfRingsModel", "isContender", "(I)Z"⟩, 31) := ⟨⟨by decide +kernel, by decide +kernel⟩, List.mem_of_getElem? (i := 573) (by decide +kernel), List.mem_of_getElem? (i := 733) (by decide +kernel), List.mem_of_getElem? (i := 734) (by decide +kernel)⟩
theorem lw_p39 : lw_okq (⟨"HeadsOfRingsModel", "isBegun", "()Z"⟩, 31) := ⟨⟨by decide +kernel, by decide +kernel⟩, List.mem_of_getElem? (i := 573) (by decide +kernel), List.mem_of_getElem? (i := 738) (by decide +kernel), List.mem_of_getElem? (i := 739) (by decide +kernel)⟩
theorem lw_p40 : lw_okq (⟨"HeadsOfRingsModel", "has", "(III)I"⟩, 31) := ⟨⟨by decide +kernel, by decide +kernel⟩, List.mem_of_getElem? (i := 573) (by decide +kernel), List.mem_of_getElem? (i := 742) (by decide +kernel), List.mem_of_getElem? (i := 743) (by decide +kernel)⟩
theorem lw_p41 : lw_okq (⟨"HeadsOfRingsModel", "notes", "()V"⟩, 31) := ⟨⟨by decide +kernel, by decide +kernel⟩, List.mem_of_getElem? (i := 573) (by decide +kernel), List.mem_of_getElem? (i := 746) (by decide +kernel), List.mem_of_getElem? (i := 747) (by decide +kernel)⟩
theorem lw_p42 : lw_okq (⟨"HeadsOfRingsModel", "copies", "(II)V"⟩, 31) := ⟨⟨by decide +kernel, by decide +kernel⟩, List.mem_of_getElem? (i := 573) (by decide +kernel), List.mem_of_getElem? (i := 750) (by decide +kernel), List.mem_of_getElem? (i := 751) (by decide +kernel)⟩
theorem lw_p43 : lw_okq (⟨"HeadsOfRingsModel", "begins", "(II)V"⟩, 31) := ⟨⟨by decide +kernel, by decide +kernel⟩, List.mem_of_getElem? (i := 573) (by decide +kernel), List.mem_of_getElem? (i := 754) (by decide +kernel), List.mem_of_getElem? (i := 755) (by decide +kernel)⟩
theorem lw_p44 : lw_okq (⟨"HeadsOfRingsModel", "rightOf", "(II)I"⟩, 31) := ⟨⟨by decide +kernel, by decide +kernel⟩, List.mem_of_getElem? (i := 573) (by decide +kernel), List.mem_of_getElem? (i := 758) (by decide +kernel), List.mem_of_getElem? (i := 759) (by decide +kernel)⟩
theorem lw_p45 : lw_okq (⟨"HeadsOfRingsModel", "sends", "(IIIIIII)V"⟩, 31) := ⟨⟨by decide +kernel, by decide +kernel⟩, List.mem_of_getElem? (i := 573) (by decide +kernel), List.mem_of_getElem? (i := 762) (by decide +kernel), List.mem_of_getElem? (i := 763) (by decide +kernel)⟩
theorem lw_p46 : lw_okq (⟨"HeadsOfRingsModel", "probes", "(II)V"⟩, 31) := ⟨⟨by decide +kernel, by decide +kernel⟩, List.mem_of_getElem? (i := 573) (by decide +kernel), List.mem_of_getElem? (i := 769) (by decide +kernel), List.mem_of_getElem? (i := 770) (by decide +kernel)⟩
theorem lw_p47 : lw_okq (⟨"HeadsOfRingsModel", "draws", "(II)V"⟩, 31) := ⟨⟨by decide +kernel, by decide +kernel⟩, List.mem_of_getElem? (i := 573) (by decide +kernel), List.mem_of_getElem? (i := 773) (by decide +kernel), List.mem_of_getElem? (i := 774) (by decide +kernel)⟩
def lw_privs_3 : List (MethodName × Nat) := [(⟨"HeadsOfRingsModel", "reads", "()V"⟩, 31), (⟨"HeadsOfRingsModel", "isDigit", "(I)Z"⟩, 31), (⟨"HeadsOfRingsModel", "readsContender", "(I)I"⟩, 31), (⟨"HeadsOfRingsModel", "isTold", "(II)Z"⟩, 31), (⟨"HeadsOfRingsModel", "clears", "()V"⟩, 31), (⟨"HeadsOfRingsModel", "set", "(IIII)V"⟩, 31), (⟨"HeadsOfRingsModel", "isContender", "(I)Z"⟩, 31), (⟨"HeadsOfRingsModel", "isBegun", "()Z"⟩, 31), (⟨"HeadsOfRingsModel", "has", "(III)I"⟩, 31), (⟨"HeadsOfRingsModel", "notes", "()V"⟩, 31), (⟨"HeadsOfRingsModel", "copies", "(II)V"⟩, 31), (⟨"HeadsOfRingsModel", "begins", "(II)V"⟩, 31), (⟨"HeadsOfRingsModel", "rightOf", "(II)I"⟩, 31), (⟨"HeadsOfRingsModel", "sends", "(IIIIIII)V"⟩, 31), (⟨"HeadsOfRingsModel", "probes", "(II)V"⟩, 31), (⟨"HeadsOfRingsModel", "draws", "(II)V"⟩, 31)]
theorem lw_r3 : ∀ q ∈ lw_privs_3, lw_okq q := List.forall_mem_cons.mpr ⟨lw_p32, List.forall_mem_cons.mpr ⟨lw_p33, List.forall_mem_cons.mpr ⟨lw_p34, List.forall_mem_cons.mpr ⟨lw_p35, List.forall_mem_cons.mpr ⟨lw_p36, List.forall_mem_cons.mpr ⟨lw_p37, List.forall_mem_cons.mpr ⟨lw_p38, List.forall_mem_cons.mpr ⟨lw_p39, List.forall_mem_cons.mpr ⟨lw_p40, List.forall_mem_cons.mpr ⟨lw_p41, List.forall_mem_cons.mpr ⟨lw_p42, List.forall_mem_cons.mpr ⟨lw_p43, List.forall_mem_cons.mpr ⟨lw_p44, List.forall_mem_cons.mpr ⟨lw_p45, List.forall_mem_cons.mpr ⟨lw_p46, List.forall_mem_cons.mpr ⟨lw_p47, fun _ h => absurd h List.not_mem_nil⟩⟩⟩⟩⟩⟩⟩⟩⟩⟩⟩⟩⟩⟩⟩⟩
theorem lw_p48 : lw_okq (⟨"HeadsOfRingsModel", "isLink", "(I)Z"⟩, 31) := ⟨⟨by decide +kernel, by decide +kernel⟩, List.mem_of_getElem? (i := 573) (by decide +kernel), List.mem_of_getElem? (i := 782) (by decide +kernel), List.mem_of_getElem? (i := 783) (by decide +kernel)⟩
theorem lw_p49 : lw_okq (⟨"HeadsOfRingsModel", "manyOn", "(II)I"⟩, 31) := ⟨⟨by decide +kernel, by decide +kernel⟩, List.mem_of_getElem? (i := 573) (by decide +kernel), List.mem_of_getElem? (i := 786) (by decide +kernel), List.mem_of_getElem? (i := 787) (by decide +kernel)⟩
theorem lw_p50 : lw_okq (⟨"HeadsOfRingsModel", "delivers", "(II)I"⟩, 31) := ⟨⟨by decide +kernel, by decide +kernel⟩, List.mem_of_getElem? (i := 573) (by decide +kernel), List.mem_of_getElem? (i := 790) (by decide +kernel), List.mem_of_getElem? (i := 791) (by decide +kernel)⟩
theorem lw_p51 : lw_okq (⟨"HeadsOfRingsModel", "letterOn", "(III)I"⟩, 31) := ⟨⟨by decide +kernel, by decide +kernel⟩, List.mem_of_getElem? (i := 573) (by decide +kernel), List.mem_of_getElem? (i := 794) (by decide +kernel), List.mem_of_getElem? (i := 795) (by decide +kernel)⟩
theorem lw_p52 : lw_okq (⟨"HeadsOfRingsModel", "comes", "(III)V"⟩, 31) := ⟨⟨by decide +kernel, by decide +kernel⟩, List.mem_of_getElem? (i := 573) (by decide +kernel), List.mem_of_getElem? (i := 798) (by decide +kernel), List.mem_of_getElem? (i := 799) (by decide +kernel)⟩
theorem lw_p53 : lw_okq (⟨"HeadsOfRingsModel", "goesOn", "(I)V"⟩, 31) := ⟨⟨by decide +kernel, by decide +kernel⟩, List.mem_of_getElem? (i := 573) (by decide +kernel), List.mem_of_getElem? (i := 802) (by decide +kernel), List.mem_of_getElem? (i := 803) (by decide +kernel)⟩
theorem lw_p54 : lw_okq (⟨"HeadsOfRingsModel", "comesByGreatest", "(IIZ)V"⟩, 31) := ⟨⟨by decide +kernel, by decide +kernel⟩, List.mem_of_getElem? (i := 573) (by decide +kernel), List.mem_of_getElem? (i := 806) (by decide +kernel), List.mem_of_getElem? (i := 807) (by decide +kernel)⟩
theorem lw_p55 : lw_okq (⟨"HeadsOfRingsModel", "heads", "(III)V"⟩, 31) := ⟨⟨by decide +kernel, by decide +kernel⟩, List.mem_of_getElem? (i := 573) (by decide +kernel), List.mem_of_getElem? (i := 810) (by decide +kernel), List.mem_of_getElem? (i := 811) (by decide +kernel)⟩
theorem lw_p56 : lw_okq (⟨"HeadsOfRingsModel", "comesProbe", "(IIZ)V"⟩, 31) := ⟨⟨by decide +kernel, by decide +kernel⟩, List.mem_of_getElem? (i := 573) (by decide +kernel), List.mem_of_getElem? (i := 814) (by decide +kernel), List.mem_of_getElem? (i := 815) (by decide +kernel)⟩
theorem lw_p57 : lw_okq (⟨"HeadsOfRingsModel", "comesReply", "(IIZ)V"⟩, 31) := ⟨⟨by decide +kernel, by decide +kernel⟩, List.mem_of_getElem? (i := 573) (by decide +kernel), List.mem_of_getElem? (i := 818) (by decide +kernel), List.mem_of_getElem? (i := 819) (by decide +kernel)⟩
theorem lw_p58 : lw_okq (⟨"HeadsOfRingsModel", "comesByDraws", "(IIZ)V"⟩, 31) := ⟨⟨by decide +kernel, by decide +kernel⟩, List.mem_of_getElem? (i := 573) (by decide +kernel), List.mem_of_getElem? (i := 822) (by decide +kernel), List.mem_of_getElem? (i := 823) (by decide +kernel)⟩
theorem lw_p59 : lw_okq (⟨"HeadsOfRingsModel", "comesByPhases", "(IIZ)V"⟩, 31) := ⟨⟨by decide +kernel, by decide +kernel⟩, List.mem_of_getElem? (i := 573) (by decide +kernel), List.mem_of_getElem? (i := 826) (by decide +kernel), List.mem_of_getElem? (i := 827) (by decide +kernel)⟩
theorem lw_p60 : lw_okq (⟨"HeadsOfRingsModel", "runs", "(IIII)I"⟩, 31) := ⟨⟨by decide +kernel, by decide +kernel⟩, List.mem_of_getElem? (i := 573) (by decide +kernel), List.mem_of_getElem? (i := 839) (by decide +kernel), List.mem_of_getElem? (i := 840) (by decide +kernel)⟩
theorem lw_p61 : lw_okq (⟨"HeadsOfRingsModel", "nextLink", "(III)I"⟩, 31) := ⟨⟨by decide +kernel, by decide +kernel⟩, List.mem_of_getElem? (i := 573) (by decide +kernel), List.mem_of_getElem? (i := 843) (by decide +kernel), List.mem_of_getElem? (i := 844) (by decide +kernel)⟩
theorem lw_p62 : lw_okq (⟨"HeadsOfRingsModel", "manyLinks", "(I)I"⟩, 31) := ⟨⟨by decide +kernel, by decide +kernel⟩, List.mem_of_getElem? (i := 573) (by decide +kernel), List.mem_of_getElem? (i := 847) (by decide +kernel), List.mem_of_getElem? (i := 848) (by decide +kernel)⟩
theorem lw_p63 : lw_okq (⟨"HeadsOfRingsModel", "linkBy", "(II)I"⟩, 31) := ⟨⟨by decide +kernel, by decide +kernel⟩, List.mem_of_getElem? (i := 573) (by decide +kernel), List.mem_of_getElem? (i := 851) (by decide +kernel), List.mem_of_getElem? (i := 852) (by decide +kernel)⟩
def lw_privs_4 : List (MethodName × Nat) := [(⟨"HeadsOfRingsModel", "isLink", "(I)Z"⟩, 31), (⟨"HeadsOfRingsModel", "manyOn", "(II)I"⟩, 31), (⟨"HeadsOfRingsModel", "delivers", "(II)I"⟩, 31), (⟨"HeadsOfRingsModel", "letterOn", "(III)I"⟩, 31), (⟨"HeadsOfRingsModel", "comes", "(III)V"⟩, 31), (⟨"HeadsOfRingsModel", "goesOn", "(I)V"⟩, 31), (⟨"HeadsOfRingsModel", "comesByGreatest", "(IIZ)V"⟩, 31), (⟨"HeadsOfRingsModel", "heads", "(III)V"⟩, 31), (⟨"HeadsOfRingsModel", "comesProbe", "(IIZ)V"⟩, 31), (⟨"HeadsOfRingsModel", "comesReply", "(IIZ)V"⟩, 31), (⟨"HeadsOfRingsModel", "comesByDraws", "(IIZ)V"⟩, 31), (⟨"HeadsOfRingsModel", "comesByPhases", "(IIZ)V"⟩, 31), (⟨"HeadsOfRingsModel", "runs", "(IIII)I"⟩, 31), (⟨"HeadsOfRingsModel", "nextLink", "(III)I"⟩, 31), (⟨"HeadsOfRingsModel", "manyLinks", "(I)I"⟩, 31), (⟨"HeadsOfRingsModel", "linkBy", "(II)I"⟩, 31)]
theorem lw_r4 : ∀ q ∈ lw_privs_4, lw_okq q := List.forall_mem_cons.mpr ⟨lw_p48, List.forall_mem_cons.mpr ⟨lw_p49, List.forall_mem_cons.mpr ⟨lw_p50, List.forall_mem_cons.mpr ⟨lw_p51, List.forall_mem_cons.mpr ⟨lw_p52, List.forall_mem_cons.mpr ⟨lw_p53, List.forall_mem_cons.mpr ⟨lw_p54, List.forall_mem_cons.mpr ⟨lw_p55, List.forall_mem_cons.mpr ⟨lw_p56, List.forall_mem_cons.mpr ⟨lw_p57, List.forall_mem_cons.mpr ⟨lw_p58, List.forall_mem_cons.mpr ⟨lw_p59, List.forall_mem_cons.mpr ⟨lw_p60, List.forall_mem_cons.mpr ⟨lw_p61, List.forall_mem_cons.mpr ⟨lw_p62, List.forall_mem_cons.mpr ⟨lw_p63, fun _ h => absurd h List.not_mem_nil⟩⟩⟩⟩⟩⟩⟩⟩⟩⟩⟩⟩⟩⟩⟩⟩
theorem lw_p64 : lw_okq (⟨"HeadsOfRingsModel", "headOf", "(I)I"⟩, 31) := ⟨⟨by decide +kernel, by decide +kernel⟩, List.mem_of_getElem? (i := 573) (by decide +kernel), List.mem_of_getElem? (i := 880) (by decide +kernel), List.mem_of_getElem? (i := 881) (by decide +kernel)⟩
theorem lw_p65 : lw_okq (⟨"HeadsOfRingsModel", "manyAre", "(II)I"⟩, 31) := ⟨⟨by decide +kernel, by decide +kernel⟩, List.mem_of_getElem? (i := 573) (by decide +kernel), List.mem_of_getElem? (i := 884) (by decide +kernel), List.mem_of_getElem? (i := 885) (by decide +kernel)⟩
theorem lw_p66 : lw_okq (⟨"HeadsOfRingsModel", "tries", "(I)V"⟩, 31) := ⟨⟨by decide +kernel, by decide +kernel⟩, List.mem_of_getElem? (i := 573) (by decide +kernel), List.mem_of_getElem? (i := 892) (by decide +kernel), List.mem_of_getElem? (i := 893) (by decide +kernel)⟩
theorem lw_p67 : lw_okq (⟨"HeadsOfRingsModel", "tallies", "(I)V"⟩, 31) := ⟨⟨by decide +kernel, by decide +kernel⟩, List.mem_of_getElem? (i := 573) (by decide +kernel), List.mem_of_getElem? (i := 896) (by decide +kernel), List.mem_of_getElem? (i := 897) (by decide +kernel)⟩
theorem lw_p68 : lw_okq (⟨"HeadsOfRingsModel", "letters", "()I"⟩, 31) := ⟨⟨by decide +kernel, by decide +kernel⟩, List.mem_of_getElem? (i := 573) (by decide +kernel), List.mem_of_getElem? (i := 904) (by decide +kernel), List.mem_of_getElem? (i := 905) (by decide +kernel)⟩
theorem lw_p69 : lw_okq (⟨"HeadsOfRingsModel", "nextSeats", "()Z"⟩, 31) := ⟨⟨by decide +kernel, by decide +kernel⟩, List.mem_of_getElem? (i := 573) (by decide +kernel), List.mem_of_getElem? (i := 908) (by decide +kernel), List.mem_of_getElem? (i := 909) (by decide +kernel)⟩
def lw_privs_5 : List (MethodName × Nat) := [(⟨"HeadsOfRingsModel", "headOf", "(I)I"⟩, 31), (⟨"HeadsOfRingsModel", "manyAre", "(II)I"⟩, 31), (⟨"HeadsOfRingsModel", "tries", "(I)V"⟩, 31), (⟨"HeadsOfRingsModel", "tallies", "(I)V"⟩, 31), (⟨"HeadsOfRingsModel", "letters", "()I"⟩, 31), (⟨"HeadsOfRingsModel", "nextSeats", "()Z"⟩, 31)]
theorem lw_r5 : ∀ q ∈ lw_privs_5, lw_okq q := List.forall_mem_cons.mpr ⟨lw_p64, List.forall_mem_cons.mpr ⟨lw_p65, List.forall_mem_cons.mpr ⟨lw_p66, List.forall_mem_cons.mpr ⟨lw_p67, List.forall_mem_cons.mpr ⟨lw_p68, List.forall_mem_cons.mpr ⟨lw_p69, fun _ h => absurd h List.not_mem_nil⟩⟩⟩⟩⟩⟩
def lw_privs : List (MethodName × Nat) := lw_privs_1 ++ (lw_privs_2 ++ (lw_privs_3 ++ (lw_privs_4 ++ (lw_privs_5))))
def lw_tbl : List Cond := k2_sels lw_privs ++ tables_1
theorem lw_privs_ok : ∀ q ∈ lw_privs, lw_okq q := by
  show ∀ q ∈ lw_privs_1 ++ (lw_privs_2 ++ (lw_privs_3 ++ (lw_privs_4 ++ (lw_privs_5)))), lw_okq q
  exact List.forall_mem_append.mpr ⟨lw_r1, List.forall_mem_append.mpr ⟨lw_r2, List.forall_mem_append.mpr ⟨lw_r3, List.forall_mem_append.mpr ⟨lw_r4, lw_r5⟩⟩⟩⟩
end
section
def RX0 : String := "HeadsOfRings$Election"
def TX0 : u_T := fun k => match k with
  | 0 => ("HeadsOfRings$Election", "ring", "LHeadsOfRings$Ring;", true)
  | 1 => ("HeadsOfRings$Election", "way", "I", false)
  | 2 => ("HeadsOfRings$Election", "greatestMark", "I", false)
  | 3 => ("HeadsOfRings$Election", "cells", "[I", true)
  | 4 => ("HeadsOfRings$Election", "letters", "[I", true)
  | 5 => ("HeadsOfRings$Election", "letterCount", "I", false)
  | 6 => ("HeadsOfRings$Election", "sentOfKind", "[I", true)
  | _ => ("HeadsOfRings$Election", "hand", "[I", true)
def tyX0 : Nat → FieldType := fun k => match k with
  | 0 => .object "HeadsOfRings$Ring"
  | 1 => .int
  | 2 => .int
  | 3 => .array .int
  | 4 => .array .int
  | 5 => .int
  | 6 => .array .int
  | _ => .array .int
theorem nmX0 : ∀ a, a < 8 → ∀ b, b < 8 → a ≠ b → (TX0 a).2.1 ≠ (TX0 b).2.1 := by decide +kernel
theorem tyX0_ok : ∀ k, k < 8 → parseFieldDescriptor (TX0 k).2.2.1 = some (tyX0 k) := by decide +kernel
abbrev cX0_init : ByteArray := prog_2_method_1_code
def yX0_init : MethodName := ⟨RX0, "<init>", "(LHeadsOfRings$Ring;)V"⟩
abbrev cX0_copyFrom : ByteArray := prog_2_method_2_code
def yX0_copyFrom : MethodName := ⟨RX0, "copyFrom", "(LHeadsOfRings$Election;)V"⟩
abbrev cX0_start : ByteArray := prog_2_method_3_code
def yX0_start : MethodName := ⟨RX0, "start", "(III)V"⟩
abbrev cX0_isBegun : ByteArray := prog_2_method_4_code
def yX0_isBegun : MethodName := ⟨RX0, "isBegun", "()Z"⟩
abbrev cX0_cell : ByteArray := prog_2_method_5_code
def yX0_cell : MethodName := ⟨RX0, "cell", "(II)I"⟩
abbrev cX0_setCell : ByteArray := prog_2_method_6_code
def yX0_setCell : MethodName := ⟨RX0, "setCell", "(III)V"⟩
abbrev cX0_letterCell : ByteArray := prog_2_method_7_code
def yX0_letterCell : MethodName := ⟨RX0, "letterCell", "(II)I"⟩
abbrev cX0_sentOf : ByteArray := prog_2_method_8_code
def yX0_sentOf : MethodName := ⟨RX0, "sentOf", "(I)I"⟩
abbrev cX0_inState : ByteArray := prog_2_method_9_code
def yX0_inState : MethodName := ⟨RX0, "inState", "(I)I"⟩
abbrev cX0_head : ByteArray := prog_2_method_10_code
def yX0_head : MethodName := ⟨RX0, "head", "()I"⟩
abbrev cX0_lettersOn : ByteArray := prog_2_method_11_code
def yX0_lettersOn : MethodName := ⟨RX0, "lettersOn", "(I)I"⟩
abbrev cX0_placeOf : ByteArray := prog_2_method_12_code
def yX0_placeOf : MethodName := ⟨RX0, "placeOf", "(II)I"⟩
abbrev cX0_isBusy : ByteArray := prog_2_method_13_code
def yX0_isBusy : MethodName := ⟨RX0, "isBusy", "(I)Z"⟩
abbrev cX0_busyLinks : ByteArray := prog_2_method_14_code
def yX0_busyLinks : MethodName := ⟨RX0, "busyLinks", "()I"⟩
abbrev cX0_deliverMany : ByteArray := prog_2_method_15_code
def yX0_deliverMany : MethodName := ⟨RX0, "deliverMany", "(III)I"⟩
abbrev cX0_chosenLine : ByteArray := prog_2_method_16_code
def yX0_chosenLine : MethodName := ⟨RX0, "chosenLine", "(III)I"⟩
abbrev cX0_nextBusyRound : ByteArray := prog_2_method_17_code
def yX0_nextBusyRound : MethodName := ⟨RX0, "nextBusyRound", "(I)I"⟩
abbrev cX0_leastBusyAfter : ByteArray := prog_2_method_18_code
def yX0_leastBusyAfter : MethodName := ⟨RX0, "leastBusyAfter", "(I)I"⟩
abbrev cX0_greatestBusy : ByteArray := prog_2_method_19_code
def yX0_greatestBusy : MethodName := ⟨RX0, "greatestBusy", "()I"⟩
abbrev cX0_busyByNumber : ByteArray := prog_2_method_20_code
def yX0_busyByNumber : MethodName := ⟨RX0, "busyByNumber", "(I)I"⟩
abbrev cX0_rouse : ByteArray := prog_2_method_21_code
def yX0_rouse : MethodName := ⟨RX0, "rouse", "(I)V"⟩
abbrev cX0_deliverFrom : ByteArray := prog_2_method_22_code
def yX0_deliverFrom : MethodName := ⟨RX0, "deliverFrom", "(I)I"⟩
abbrev cX0_takeInHand : ByteArray := prog_2_method_23_code
def yX0_takeInHand : MethodName := ⟨RX0, "takeInHand", "(I)V"⟩
abbrev cX0_goesOn : ByteArray := prog_2_method_24_code
def yX0_goesOn : MethodName := ⟨RX0, "goesOn", "(I)Z"⟩
abbrev cX0_crownGoesOn : ByteArray := prog_2_method_25_code
def yX0_crownGoesOn : MethodName := ⟨RX0, "crownGoesOn", "(I)Z"⟩
abbrev cX0_getsPast : ByteArray := prog_2_method_26_code
def yX0_getsPast : MethodName := ⟨RX0, "getsPast", "(I)Z"⟩
abbrev cX0_probeGoesOn : ByteArray := prog_2_method_27_code
def yX0_probeGoesOn : MethodName := ⟨RX0, "probeGoesOn", "(I)Z"⟩
abbrev cX0_replyGoesOn : ByteArray := prog_2_method_28_code
def yX0_replyGoesOn : MethodName := ⟨RX0, "replyGoesOn", "(I)Z"⟩
abbrev cX0_markGoesOn : ByteArray := prog_2_method_29_code
def yX0_markGoesOn : MethodName := ⟨RX0, "markGoesOn", "(I)Z"⟩
abbrev cX0_takeFirst : ByteArray := prog_2_method_30_code
def yX0_takeFirst : MethodName := ⟨RX0, "takeFirst", "(I)V"⟩
abbrev cX0_takeSecond : ByteArray := prog_2_method_31_code
def yX0_takeSecond : MethodName := ⟨RX0, "takeSecond", "(I)V"⟩
abbrev cX0_tokenGoesOn : ByteArray := prog_2_method_32_code
def yX0_tokenGoesOn : MethodName := ⟨RX0, "tokenGoesOn", "(I)Z"⟩
abbrev cX0_tokenComesHome : ByteArray := prog_2_method_33_code
def yX0_tokenComesHome : MethodName := ⟨RX0, "tokenComesHome", "(I)Z"⟩
abbrev cX0_tokenGetsPast : ByteArray := prog_2_method_34_code
def yX0_tokenGetsPast : MethodName := ⟨RX0, "tokenGetsPast", "(I)Z"⟩
abbrev cX0_isRunning : ByteArray := prog_2_method_35_code
def yX0_isRunning : MethodName := ⟨RX0, "isRunning", "(I)Z"⟩
abbrev cX0_becomeHead : ByteArray := prog_2_method_36_code
def yX0_becomeHead : MethodName := ⟨RX0, "becomeHead", "(II)V"⟩
abbrev cX0_sendProbes : ByteArray := prog_2_method_37_code
def yX0_sendProbes : MethodName := ⟨RX0, "sendProbes", "(I)V"⟩
abbrev cX0_draw : ByteArray := prog_2_method_38_code
def yX0_draw : MethodName := ⟨RX0, "draw", "(I)V"⟩
abbrev cX0_sendRight : ByteArray := prog_2_method_39_code
def yX0_sendRight : MethodName := ⟨RX0, "sendRight", "(III)V"⟩
abbrev cX0_send : ByteArray := prog_2_method_40_code
def yX0_send : MethodName := ⟨RX0, "send", "(IIIIII)V"⟩
def RX1 : String := "HeadsOfRings$Foresight"
def TX1 : u_T := fun k => match k with
  | 0 => ("HeadsOfRings$Foresight", "trials", "[LHeadsOfRings$Election;", true)
  | 1 => ("HeadsOfRings$Foresight", "sentBefore", "I", false)
  | 2 => ("HeadsOfRings$Foresight", "leastSent", "I", false)
  | 3 => ("HeadsOfRings$Foresight", "greatestSent", "I", false)
  | 4 => ("HeadsOfRings$Foresight", "withHead", "I", false)
  | _ => ("HeadsOfRings$Foresight", "sequences", "I", false)
def tyX1 : Nat → FieldType := fun k => match k with
  | 0 => .array (.object "HeadsOfRings$Election")
  | 1 => .int
  | 2 => .int
  | 3 => .int
  | 4 => .int
  | _ => .int
theorem nmX1 : ∀ a, a < 6 → ∀ b, b < 6 → a ≠ b → (TX1 a).2.1 ≠ (TX1 b).2.1 := by decide +kernel
theorem tyX1_ok : ∀ k, k < 6 → parseFieldDescriptor (TX1 k).2.2.1 = some (tyX1 k) := by decide +kernel
abbrev cX1_init : ByteArray := prog_3_method_1_code
def yX1_init : MethodName := ⟨RX1, "<init>", "(LHeadsOfRings$Ring;)V"⟩
abbrev cX1_reset : ByteArray := prog_3_method_2_code
def yX1_reset : MethodName := ⟨RX1, "reset", "(LHeadsOfRings$Election;)V"⟩
abbrev cX1_explore : ByteArray := prog_3_method_3_code
def yX1_explore : MethodName := ⟨RX1, "explore", "(LHeadsOfRings$Election;I)V"⟩
abbrev cX1_note : ByteArray := prog_3_method_4_code
def yX1_note : MethodName := ⟨RX1, "note", "(LHeadsOfRings$Election;)V"⟩
def RX2 : String := "HeadsOfRings$History"
def TX2 : u_T := fun k => match k with
  | 0 => ("HeadsOfRings$History", "kept", "[LHeadsOfRings$Election;", true)
  | 1 => ("HeadsOfRings$History", "next", "I", false)
  | _ => ("HeadsOfRings$History", "size", "I", false)
def tyX2 : Nat → FieldType := fun k => match k with
  | 0 => .array (.object "HeadsOfRings$Election")
  | 1 => .int
  | _ => .int
theorem nmX2 : ∀ a, a < 3 → ∀ b, b < 3 → a ≠ b → (TX2 a).2.1 ≠ (TX2 b).2.1 := by decide +kernel
theorem tyX2_ok : ∀ k, k < 3 → parseFieldDescriptor (TX2 k).2.2.1 = some (tyX2 k) := by decide +kernel
abbrev cX2_init : ByteArray := prog_4_method_1_code
def yX2_init : MethodName := ⟨RX2, "<init>", "(LHeadsOfRings$Ring;)V"⟩
abbrev cX2_forget : ByteArray := prog_4_method_2_code
def yX2_forget : MethodName := ⟨RX2, "forget", "()V"⟩
abbrev cX2_keep : ByteArray := prog_4_method_3_code
def yX2_keep : MethodName := ⟨RX2, "keep", "(LHeadsOfRings$Election;)V"⟩
abbrev cX2_giveBack : ByteArray := prog_4_method_4_code
def yX2_giveBack : MethodName := ⟨RX2, "giveBack", "(LHeadsOfRings$Election;)Z"⟩
abbrev cX2_keptAt : ByteArray := prog_4_method_5_code
def yX2_keptAt : MethodName := ⟨RX2, "keptAt", "(I)LHeadsOfRings$Election;"⟩
def RX3 : String := "HeadsOfRings$Ring"
def TX3 : u_T := fun k => match k with
  | 0 => ("HeadsOfRings$Ring", "size", "I", false)
  | 1 => ("HeadsOfRings$Ring", "names", "[I", true)
  | _ => ("HeadsOfRings$Ring", "senses", "[I", true)
def tyX3 : Nat → FieldType := fun k => match k with
  | 0 => .int
  | 1 => .array .int
  | _ => .array .int
theorem nmX3 : ∀ a, a < 3 → ∀ b, b < 3 → a ≠ b → (TX3 a).2.1 ≠ (TX3 b).2.1 := by decide +kernel
theorem tyX3_ok : ∀ k, k < 3 → parseFieldDescriptor (TX3 k).2.2.1 = some (tyX3 k) := by decide +kernel
abbrev cX3_init : ByteArray := prog_5_method_1_code
def yX3_init : MethodName := ⟨RX3, "<init>", "()V"⟩
abbrev cX3_copyFrom : ByteArray := prog_5_method_2_code
def yX3_copyFrom : MethodName := ⟨RX3, "copyFrom", "(LHeadsOfRings$Ring;)V"⟩
abbrev cX3_isFull : ByteArray := prog_5_method_3_code
def yX3_isFull : MethodName := ⟨RX3, "isFull", "()Z"⟩
abbrev cX3_addName : ByteArray := prog_5_method_4_code
def yX3_addName : MethodName := ⟨RX3, "addName", "(I)V"⟩
abbrev cX3_setLastSense : ByteArray := prog_5_method_5_code
def yX3_setLastSense : MethodName := ⟨RX3, "setLastSense", "(I)V"⟩
abbrev cX3_hasContender : ByteArray := prog_5_method_6_code
def yX3_hasContender : MethodName := ⟨RX3, "hasContender", "(I)Z"⟩
abbrev cX3_hasLink : ByteArray := prog_5_method_7_code
def yX3_hasLink : MethodName := ⟨RX3, "hasLink", "(I)Z"⟩
abbrev cX3_hasName : ByteArray := prog_5_method_8_code
def yX3_hasName : MethodName := ⟨RX3, "hasName", "(I)Z"⟩
abbrev cX3_sensesAgree : ByteArray := prog_5_method_9_code
def yX3_sensesAgree : MethodName := ⟨RX3, "sensesAgree", "()Z"⟩
abbrev cX3_nameOf : ByteArray := prog_5_method_10_code
def yX3_nameOf : MethodName := ⟨RX3, "nameOf", "(I)I"⟩
abbrev cX3_senseOf : ByteArray := prog_5_method_11_code
def yX3_senseOf : MethodName := ⟨RX3, "senseOf", "(I)I"⟩
abbrev cX3_receiverOf : ByteArray := prog_5_method_12_code
def yX3_receiverOf : MethodName := ⟨RX3, "receiverOf", "(I)I"⟩
abbrev cX3_directionOf : ByteArray := prog_5_method_13_code
def yX3_directionOf : MethodName := ⟨RX3, "directionOf", "(I)I"⟩
abbrev cX3_lineFrom : ByteArray := prog_5_method_14_code
def yX3_lineFrom : MethodName := ⟨RX3, "lineFrom", "(II)I"⟩
def RX4 : String := "HeadsOfRings$Text"
def TX4 : u_T := fun k => match k with
  | 0 => ("HeadsOfRings$Text", "bytes", "[I", true)
  | 1 => ("HeadsOfRings$Text", "length", "I", false)
  | 2 => ("HeadsOfRings$Text", "fault", "I", false)
  | 3 => ("HeadsOfRings$Text", "tokenStart", "I", false)
  | _ => ("HeadsOfRings$Text", "tokenEnd", "I", false)
def tyX4 : Nat → FieldType := fun k => match k with
  | 0 => .array .int
  | 1 => .int
  | 2 => .int
  | 3 => .int
  | _ => .int
theorem nmX4 : ∀ a, a < 5 → ∀ b, b < 5 → a ≠ b → (TX4 a).2.1 ≠ (TX4 b).2.1 := by decide +kernel
theorem tyX4_ok : ∀ k, k < 5 → parseFieldDescriptor (TX4 k).2.2.1 = some (tyX4 k) := by decide +kernel
abbrev cX4_init : ByteArray := prog_6_method_1_code
def yX4_init : MethodName := ⟨RX4, "<init>", "()V"⟩
abbrev cX4_append : ByteArray := prog_6_method_2_code
def yX4_append : MethodName := ⟨RX4, "append", "(I)Z"⟩
abbrev cX4_readInto : ByteArray := prog_6_method_3_code
def yX4_readInto : MethodName := ⟨RX4, "readInto", "(LHeadsOfRings$Ring;)I"⟩
abbrev cX4_findToken : ByteArray := prog_6_method_4_code
def yX4_findToken : MethodName := ⟨RX4, "findToken", "()V"⟩
abbrev cX4_faultOfToken : ByteArray := prog_6_method_5_code
def yX4_faultOfToken : MethodName := ⟨RX4, "faultOfToken", "(ILHeadsOfRings$Ring;)I"⟩
abbrev cX4_faultOfFigures : ByteArray := prog_6_method_6_code
def yX4_faultOfFigures : MethodName := ⟨RX4, "faultOfFigures", "(LHeadsOfRings$Ring;)I"⟩
abbrev cX4_takeToken : ByteArray := prog_6_method_7_code
def yX4_takeToken : MethodName := ⟨RX4, "takeToken", "(ILHeadsOfRings$Ring;)V"⟩
abbrev cX4_tokenValue : ByteArray := prog_6_method_8_code
def yX4_tokenValue : MethodName := ⟨RX4, "tokenValue", "()I"⟩
abbrev cX4_byteAt : ByteArray := prog_6_method_9_code
def yX4_byteAt : MethodName := ⟨RX4, "byteAt", "(I)I"⟩
abbrev cX4_isDigit : ByteArray := prog_6_method_10_code
def yX4_isDigit : MethodName := ⟨RX4, "isDigit", "(I)Z"⟩
def RX5 : String := "HeadsOfRings"
def TX5 : u_T := fun k => match k with
  | 0 => ("HeadsOfRings", "text", "LHeadsOfRings$Text;", true)
  | 1 => ("HeadsOfRings", "present", "LHeadsOfRings$Ring;", true)
  | 2 => ("HeadsOfRings", "draft", "LHeadsOfRings$Ring;", true)
  | 3 => ("HeadsOfRings", "now", "LHeadsOfRings$Election;", true)
  | 4 => ("HeadsOfRings", "trial", "LHeadsOfRings$Election;", true)
  | 5 => ("HeadsOfRings", "history", "LHeadsOfRings$History;", true)
  | _ => ("HeadsOfRings", "foresight", "LHeadsOfRings$Foresight;", true)
def tyX5 : Nat → FieldType := fun k => match k with
  | 0 => .object "HeadsOfRings$Text"
  | 1 => .object "HeadsOfRings$Ring"
  | 2 => .object "HeadsOfRings$Ring"
  | 3 => .object "HeadsOfRings$Election"
  | 4 => .object "HeadsOfRings$Election"
  | 5 => .object "HeadsOfRings$History"
  | _ => .object "HeadsOfRings$Foresight"
theorem nmX5 : ∀ a, a < 7 → ∀ b, b < 7 → a ≠ b → (TX5 a).2.1 ≠ (TX5 b).2.1 := by decide +kernel
theorem tyX5_ok : ∀ k, k < 7 → parseFieldDescriptor (TX5 k).2.2.1 = some (tyX5 k) := by decide +kernel
abbrev cX5_init : ByteArray := prog_1_method_1_code
def yX5_init : MethodName := ⟨RX5, "<init>", "()V"⟩
abbrev cX5_write : ByteArray := prog_1_method_2_code
def yX5_write : MethodName := ⟨RX5, "write", "(I)I"⟩
abbrev cX5_ring : ByteArray := prog_1_method_3_code
def yX5_ring : MethodName := ⟨RX5, "ring", "()I"⟩
abbrev cX5_fault : ByteArray := prog_1_method_4_code
def yX5_fault : MethodName := ⟨RX5, "fault", "()I"⟩
abbrev cX5_begin : ByteArray := prog_1_method_5_code
def yX5_begin : MethodName := ⟨RX5, "begin", "(III)I"⟩
abbrev cX5_wake : ByteArray := prog_1_method_6_code
def yX5_wake : MethodName := ⟨RX5, "wake", "(I)I"⟩
abbrev cX5_deliver : ByteArray := prog_1_method_7_code
def yX5_deliver : MethodName := ⟨RX5, "deliver", "(I)I"⟩
abbrev cX5_run : ByteArray := prog_1_method_8_code
def yX5_run : MethodName := ⟨RX5, "run", "(III)I"⟩
abbrev cX5_undo : ByteArray := prog_1_method_9_code
def yX5_undo : MethodName := ⟨RX5, "undo", "()I"⟩
abbrev cX5_contender : ByteArray := prog_1_method_10_code
def yX5_contender : MethodName := ⟨RX5, "contender", "(II)I"⟩
abbrev cX5_link : ByteArray := prog_1_method_11_code
def yX5_link : MethodName := ⟨RX5, "link", "(I)I"⟩
abbrev cX5_letter : ByteArray := prog_1_method_12_code
def yX5_letter : MethodName := ⟨RX5, "letter", "(III)I"⟩
abbrev cX5_sent : ByteArray := prog_1_method_13_code
def yX5_sent : MethodName := ⟨RX5, "sent", "(I)I"⟩
abbrev cX5_would : ByteArray := prog_1_method_14_code
def yX5_would : MethodName := ⟨RX5, "would", "(III)I"⟩
abbrev cX5_foresee : ByteArray := prog_1_method_15_code
def yX5_foresee : MethodName := ⟨RX5, "foresee", "(II)I"⟩
abbrev cX5_sit : ByteArray := prog_1_method_16_code
def yX5_sit : MethodName := ⟨RX5, "sit", "(I)I"⟩
abbrev cX5_chance : ByteArray := prog_1_method_17_code
def yX5_chance : MethodName := ⟨RX5, "chance", "(IIII)J"⟩
abbrev cX5_count : ByteArray := prog_1_method_18_code
def yX5_count : MethodName := ⟨RX5, "count", "(I)I"⟩
abbrev cX5_within : ByteArray := prog_1_method_19_code
def yX5_within : MethodName := ⟨RX5, "within", "(III)Z"⟩
abbrev cX5_following : ByteArray := prog_1_method_20_code
def yX5_following : MethodName := ⟨RX5, "following", "(I)I"⟩
abbrev cX5_sixtiethsOfMean : ByteArray := prog_1_method_21_code
def yX5_sixtiethsOfMean : MethodName := ⟨RX5, "sixtiethsOfMean", "(I)J"⟩
abbrev cX5_waysToOne : ByteArray := prog_1_method_22_code
def yX5_waysToOne : MethodName := ⟨RX5, "waysToOne", "(III)J"⟩
abbrev cX5_waysToLeave : ByteArray := prog_1_method_23_code
def yX5_waysToLeave : MethodName := ⟨RX5, "waysToLeave", "(III)J"⟩
abbrev cX5_choices : ByteArray := prog_1_method_24_code
def yX5_choices : MethodName := ⟨RX5, "choices", "(II)J"⟩
abbrev cX5_power : ByteArray := prog_1_method_25_code
def yX5_power : MethodName := ⟨RX5, "power", "(JI)J"⟩
abbrev cX5_lowest : ByteArray := prog_1_method_26_code
def yX5_lowest : MethodName := ⟨RX5, "lowest", "(JJZ)J"⟩
abbrev cX5_commonDivisor : ByteArray := prog_1_method_27_code
def yX5_commonDivisor : MethodName := ⟨RX5, "commonDivisor", "(JJ)J"⟩
def RX6 : String := "HeadsOfRingsModel"
def TX6 : u_T := fun k => match k with
  | 0 => ("HeadsOfRingsModel", "n", "I", false)
  | 1 => ("HeadsOfRingsModel", "names", "[I", true)
  | 2 => ("HeadsOfRingsModel", "senses", "[I", true)
  | 3 => ("HeadsOfRingsModel", "row", "[I", true)
  | 4 => ("HeadsOfRingsModel", "undos", "I", false)
  | 5 => ("HeadsOfRingsModel", "kind", "I", false)
  | 6 => ("HeadsOfRingsModel", "number", "I", false)
  | 7 => ("HeadsOfRingsModel", "level", "I", false)
  | 8 => ("HeadsOfRingsModel", "steps", "I", false)
  | 9 => ("HeadsOfRingsModel", "alone", "I", false)
  | 10 => ("HeadsOfRingsModel", "onward", "I", false)
  | 11 => ("HeadsOfRingsModel", "answer", "I", false)
  | 12 => ("HeadsOfRingsModel", "y", "J", false)
  | 13 => ("HeadsOfRingsModel", "text", "[I", true)
  | 14 => ("HeadsOfRingsModel", "size", "I", false)
  | 15 => ("HeadsOfRingsModel", "latest", "I", false)
  | 16 => ("HeadsOfRingsModel", "at", "I", false)
  | 17 => ("HeadsOfRingsModel", "begin", "I", false)
  | 18 => ("HeadsOfRingsModel", "digits", "I", false)
  | 19 => ("HeadsOfRingsModel", "value", "I", false)
  | 20 => ("HeadsOfRingsModel", "token", "I", false)
  | 21 => ("HeadsOfRingsModel", "told", "[I", true)
  | 22 => ("HeadsOfRingsModel", "toldSense", "[I", true)
  | 23 => ("HeadsOfRingsModel", "leastSent", "I", false)
  | 24 => ("HeadsOfRingsModel", "mostSent", "I", false)
  | 25 => ("HeadsOfRingsModel", "withHead", "I", false)
  | 26 => ("HeadsOfRingsModel", "orders", "I", false)
  | 27 => ("HeadsOfRingsModel", "nextOne", "[I", true)
  | 28 => ("HeadsOfRingsModel", "seat", "[I", true)
  | 29 => ("HeadsOfRingsModel", "odds", "[J", true)
  | _ => ("HeadsOfRingsModel", "oddsThen", "[J", true)
def tyX6 : Nat → FieldType := fun k => match k with
  | 0 => .int
  | 1 => .array .int
  | 2 => .array .int
  | 3 => .array .int
  | 4 => .int
  | 5 => .int
  | 6 => .int
  | 7 => .int
  | 8 => .int
  | 9 => .int
  | 10 => .int
  | 11 => .int
  | 12 => .long
  | 13 => .array .int
  | 14 => .int
  | 15 => .int
  | 16 => .int
  | 17 => .int
  | 18 => .int
  | 19 => .int
  | 20 => .int
  | 21 => .array .int
  | 22 => .array .int
  | 23 => .int
  | 24 => .int
  | 25 => .int
  | 26 => .int
  | 27 => .array .int
  | 28 => .array .int
  | 29 => .array .long
  | _ => .array .long
theorem nmX6 : ∀ a, a < 31 → ∀ b, b < 31 → a ≠ b → (TX6 a).2.1 ≠ (TX6 b).2.1 := by decide +kernel
theorem tyX6_ok : ∀ k, k < 31 → parseFieldDescriptor (TX6 k).2.2.1 = some (tyX6 k) := by decide +kernel
abbrev cX6_init : ByteArray := prog_8_method_1_code
def yX6_init : MethodName := ⟨RX6, "<init>", "()V"⟩
abbrev cX6_in : ByteArray := prog_8_method_2_code
def yX6_in : MethodName := ⟨RX6, "in", "(JJJ)Z"⟩
abbrev cX6_copies : ByteArray := prog_8_method_3_code
def yX6_copies : MethodName := ⟨RX6, "copies", "(II)V"⟩
abbrev cX6_isBegun : ByteArray := prog_8_method_4_code
def yX6_isBegun : MethodName := ⟨RX6, "isBegun", "()Z"⟩
abbrev cX6_isContender : ByteArray := prog_8_method_5_code
def yX6_isContender : MethodName := ⟨RX6, "isContender", "(I)Z"⟩
abbrev cX6_isLink : ByteArray := prog_8_method_6_code
def yX6_isLink : MethodName := ⟨RX6, "isLink", "(I)Z"⟩
abbrev cX6_ofContender : ByteArray := prog_8_method_7_code
def yX6_ofContender : MethodName := ⟨RX6, "ofContender", "(III)I"⟩
abbrev cX6_ofLetter : ByteArray := prog_8_method_8_code
def yX6_ofLetter : MethodName := ⟨RX6, "ofLetter", "(III)I"⟩
abbrev cX6_has : ByteArray := prog_8_method_9_code
def yX6_has : MethodName := ⟨RX6, "has", "(III)I"⟩
abbrev cX6_set : ByteArray := prog_8_method_10_code
def yX6_set : MethodName := ⟨RX6, "set", "(IIII)V"⟩
abbrev cX6_sends : ByteArray := prog_8_method_11_code
def yX6_sends : MethodName := ⟨RX6, "sends", "(IIIIIII)V"⟩
abbrev cX6_rightOf : ByteArray := prog_8_method_12_code
def yX6_rightOf : MethodName := ⟨RX6, "rightOf", "(II)I"⟩
abbrev cX6_letterOn : ByteArray := prog_8_method_13_code
def yX6_letterOn : MethodName := ⟨RX6, "letterOn", "(III)I"⟩
abbrev cX6_manyOn : ByteArray := prog_8_method_14_code
def yX6_manyOn : MethodName := ⟨RX6, "manyOn", "(II)I"⟩
abbrev cX6_probes : ByteArray := prog_8_method_15_code
def yX6_probes : MethodName := ⟨RX6, "probes", "(II)V"⟩
abbrev cX6_draws : ByteArray := prog_8_method_16_code
def yX6_draws : MethodName := ⟨RX6, "draws", "(II)V"⟩
abbrev cX6_begins : ByteArray := prog_8_method_17_code
def yX6_begins : MethodName := ⟨RX6, "begins", "(II)V"⟩
abbrev cX6_heads : ByteArray := prog_8_method_18_code
def yX6_heads : MethodName := ⟨RX6, "heads", "(III)V"⟩
abbrev cX6_goesOn : ByteArray := prog_8_method_19_code
def yX6_goesOn : MethodName := ⟨RX6, "goesOn", "(I)V"⟩
abbrev cX6_comesByGreatest : ByteArray := prog_8_method_20_code
def yX6_comesByGreatest : MethodName := ⟨RX6, "comesByGreatest", "(IIZ)V"⟩
abbrev cX6_comesProbe : ByteArray := prog_8_method_21_code
def yX6_comesProbe : MethodName := ⟨RX6, "comesProbe", "(IIZ)V"⟩
abbrev cX6_comesReply : ByteArray := prog_8_method_22_code
def yX6_comesReply : MethodName := ⟨RX6, "comesReply", "(IIZ)V"⟩
abbrev cX6_comesByPhases : ByteArray := prog_8_method_23_code
def yX6_comesByPhases : MethodName := ⟨RX6, "comesByPhases", "(IIZ)V"⟩
abbrev cX6_comesByDraws : ByteArray := prog_8_method_24_code
def yX6_comesByDraws : MethodName := ⟨RX6, "comesByDraws", "(IIZ)V"⟩
abbrev cX6_comes : ByteArray := prog_8_method_25_code
def yX6_comes : MethodName := ⟨RX6, "comes", "(III)V"⟩
abbrev cX6_delivers : ByteArray := prog_8_method_26_code
def yX6_delivers : MethodName := ⟨RX6, "delivers", "(II)I"⟩
abbrev cX6_manyLinks : ByteArray := prog_8_method_27_code
def yX6_manyLinks : MethodName := ⟨RX6, "manyLinks", "(I)I"⟩
abbrev cX6_linkBy : ByteArray := prog_8_method_28_code
def yX6_linkBy : MethodName := ⟨RX6, "linkBy", "(II)I"⟩
abbrev cX6_nextLink : ByteArray := prog_8_method_29_code
def yX6_nextLink : MethodName := ⟨RX6, "nextLink", "(III)I"⟩
abbrev cX6_runs : ByteArray := prog_8_method_30_code
def yX6_runs : MethodName := ⟨RX6, "runs", "(IIII)I"⟩
abbrev cX6_notes : ByteArray := prog_8_method_31_code
def yX6_notes : MethodName := ⟨RX6, "notes", "()V"⟩
abbrev cX6_write : ByteArray := prog_8_method_32_code
def yX6_write : MethodName := ⟨RX6, "write", "(I)I"⟩
abbrev cX6_isDigit : ByteArray := prog_8_method_33_code
def yX6_isDigit : MethodName := ⟨RX6, "isDigit", "(I)Z"⟩
abbrev cX6_reads : ByteArray := prog_8_method_34_code
def yX6_reads : MethodName := ⟨RX6, "reads", "()V"⟩
abbrev cX6_isTold : ByteArray := prog_8_method_35_code
def yX6_isTold : MethodName := ⟨RX6, "isTold", "(II)Z"⟩
abbrev cX6_readsContender : ByteArray := prog_8_method_36_code
def yX6_readsContender : MethodName := ⟨RX6, "readsContender", "(I)I"⟩
abbrev cX6_ring : ByteArray := prog_8_method_37_code
def yX6_ring : MethodName := ⟨RX6, "ring", "()I"⟩
abbrev cX6_fault : ByteArray := prog_8_method_38_code
def yX6_fault : MethodName := ⟨RX6, "fault", "()I"⟩
abbrev cX6_clears : ByteArray := prog_8_method_39_code
def yX6_clears : MethodName := ⟨RX6, "clears", "()V"⟩
abbrev cX6_begin : ByteArray := prog_8_method_40_code
def yX6_begin : MethodName := ⟨RX6, "begin", "(III)I"⟩
abbrev cX6_wake : ByteArray := prog_8_method_41_code
def yX6_wake : MethodName := ⟨RX6, "wake", "(I)I"⟩
abbrev cX6_deliver : ByteArray := prog_8_method_42_code
def yX6_deliver : MethodName := ⟨RX6, "deliver", "(I)I"⟩
abbrev cX6_isOrder : ByteArray := prog_8_method_43_code
def yX6_isOrder : MethodName := ⟨RX6, "isOrder", "(II)Z"⟩
abbrev cX6_run : ByteArray := prog_8_method_44_code
def yX6_run : MethodName := ⟨RX6, "run", "(III)I"⟩
abbrev cX6_undo : ByteArray := prog_8_method_45_code
def yX6_undo : MethodName := ⟨RX6, "undo", "()I"⟩
abbrev cX6_contender : ByteArray := prog_8_method_46_code
def yX6_contender : MethodName := ⟨RX6, "contender", "(II)I"⟩
abbrev cX6_link : ByteArray := prog_8_method_47_code
def yX6_link : MethodName := ⟨RX6, "link", "(I)I"⟩
abbrev cX6_letter : ByteArray := prog_8_method_48_code
def yX6_letter : MethodName := ⟨RX6, "letter", "(III)I"⟩
abbrev cX6_sent : ByteArray := prog_8_method_49_code
def yX6_sent : MethodName := ⟨RX6, "sent", "(I)I"⟩
abbrev cX6_manyAre : ByteArray := prog_8_method_50_code
def yX6_manyAre : MethodName := ⟨RX6, "manyAre", "(II)I"⟩
abbrev cX6_headOf : ByteArray := prog_8_method_51_code
def yX6_headOf : MethodName := ⟨RX6, "headOf", "(I)I"⟩
abbrev cX6_would : ByteArray := prog_8_method_52_code
def yX6_would : MethodName := ⟨RX6, "would", "(III)I"⟩
abbrev cX6_tallies : ByteArray := prog_8_method_53_code
def yX6_tallies : MethodName := ⟨RX6, "tallies", "(I)V"⟩
abbrev cX6_tries : ByteArray := prog_8_method_54_code
def yX6_tries : MethodName := ⟨RX6, "tries", "(I)V"⟩
abbrev cX6_foresee : ByteArray := prog_8_method_55_code
def yX6_foresee : MethodName := ⟨RX6, "foresee", "(II)I"⟩
abbrev cX6_letters : ByteArray := prog_8_method_56_code
def yX6_letters : MethodName := ⟨RX6, "letters", "()I"⟩
abbrev cX6_nextSeats : ByteArray := prog_8_method_57_code
def yX6_nextSeats : MethodName := ⟨RX6, "nextSeats", "()Z"⟩
abbrev cX6_commonOf : ByteArray := prog_8_method_58_code
def yX6_commonOf : MethodName := ⟨RX6, "commonOf", "(JJ)J"⟩
abbrev cX6_sit : ByteArray := prog_8_method_59_code
def yX6_sit : MethodName := ⟨RX6, "sit", "(I)I"⟩
abbrev cX6_power : ByteArray := prog_8_method_60_code
def yX6_power : MethodName := ⟨RX6, "power", "(JI)J"⟩
abbrev cX6_leave : ByteArray := prog_8_method_61_code
def yX6_leave : MethodName := ⟨RX6, "leave", "(III)J"⟩
abbrev cX6_chance : ByteArray := prog_8_method_62_code
def yX6_chance : MethodName := ⟨RX6, "chance", "(IIII)J"⟩
abbrev cX6_count : ByteArray := prog_8_method_63_code
def yX6_count : MethodName := ⟨RX6, "count", "(I)I"⟩
def RJ9 : String := "java/lang/Math"
abbrev cJ9_max_7cf53 : ByteArray := prog_9_method_65_code
def yJ9_max_7cf53 : MethodName := ⟨RJ9, "max", "(II)I"⟩
abbrev cJ9_min_7cf53 : ByteArray := prog_9_method_69_code
def yJ9_min_7cf53 : MethodName := ⟨RJ9, "min", "(II)I"⟩
def RJ10 : String := "java/lang/System"
def RL : String := "HeadsOfRingsLaw"
abbrev cL_law : ByteArray := code
def yL_law : MethodName := ⟨RL, "law", "([I)Z"⟩
abbrev vwCl : List vw_C := [(RX0, TX0, 8), (RX1, TX1, 6), (RX2, TX2, 3), (RX3, TX3, 3), (RX4, TX4, 5), (RX5, TX5, 7), (RX6, TX6, 31)]
end
section
theorem dX0_init_0 : decode cX0_init 0 = .ok (.aload_n 0, 1) := by decide +kernel
theorem dX0_init_1 : decode cX0_init 1 = .ok (.invokespecial 3, 3) := by decide +kernel
theorem dX0_init_4 : decode cX0_init 4 = .ok (.aload_n 0, 1) := by decide +kernel
theorem dX0_init_5 : decode cX0_init 5 = .ok (.iconst 0, 1) := by decide +kernel
theorem dX0_init_6 : decode cX0_init 6 = .ok (.putfield 9, 3) := by decide +kernel
theorem dX0_init_9 : decode cX0_init 9 = .ok (.aload_n 0, 1) := by decide +kernel
theorem dX0_init_10 : decode cX0_init 10 = .ok (.iconst 1, 1) := by decide +kernel
theorem dX0_init_11 : decode cX0_init 11 = .ok (.putfield 15, 3) := by decide +kernel
theorem dX0_init_14 : decode cX0_init 14 = .ok (.aload_n 0, 1) := by decide +kernel
theorem dX0_init_15 : decode cX0_init 15 = .ok (.bipush 48, 2) := by decide +kernel
theorem dX0_init_17 : decode cX0_init 17 = .ok (.newarray .int, 2) := by decide +kernel
theorem dX0_init_19 : decode cX0_init 19 = .ok (.putfield 18, 3) := by decide +kernel
theorem dX0_init_22 : decode cX0_init 22 = .ok (.aload_n 0, 1) := by decide +kernel
theorem dX0_init_23 : decode cX0_init 23 = .ok (.bipush 72, 2) := by decide +kernel
theorem dX0_init_25 : decode cX0_init 25 = .ok (.newarray .int, 2) := by decide +kernel
theorem dX0_init_27 : decode cX0_init 27 = .ok (.putfield 22, 3) := by decide +kernel
theorem dX0_init_30 : decode cX0_init 30 = .ok (.aload_n 0, 1) := by decide +kernel
theorem dX0_init_31 : decode cX0_init 31 = .ok (.iconst 0, 1) := by decide +kernel
theorem dX0_init_32 : decode cX0_init 32 = .ok (.putfield 25, 3) := by decide +kernel
theorem dX0_init_35 : decode cX0_init 35 = .ok (.aload_n 0, 1) := by decide +kernel
theorem dX0_init_36 : decode cX0_init 36 = .ok (.bipush 8, 2) := by decide +kernel
theorem dX0_init_38 : decode cX0_init 38 = .ok (.newarray .int, 2) := by decide +kernel
theorem dX0_init_40 : decode cX0_init 40 = .ok (.putfield 28, 3) := by decide +kernel
theorem dX0_init_43 : decode cX0_init 43 = .ok (.aload_n 0, 1) := by decide +kernel
theorem dX0_init_44 : decode cX0_init 44 = .ok (.bipush 6, 2) := by decide +kernel
theorem dX0_init_46 : decode cX0_init 46 = .ok (.newarray .int, 2) := by decide +kernel
theorem dX0_init_48 : decode cX0_init 48 = .ok (.putfield 31, 3) := by decide +kernel
theorem dX0_init_51 : decode cX0_init 51 = .ok (.aload_n 0, 1) := by decide +kernel
theorem dX0_init_52 : decode cX0_init 52 = .ok (.aload_n 1, 1) := by decide +kernel
theorem dX0_init_53 : decode cX0_init 53 = .ok (.putfield 34, 3) := by decide +kernel
theorem dX0_init_56 : decode cX0_init 56 = .ok (.return_, 1) := by decide +kernel
theorem dX0_copyFrom_0 : decode cX0_copyFrom 0 = .ok (.aload_n 0, 1) := by decide +kernel
theorem dX0_copyFrom_1 : decode cX0_copyFrom 1 = .ok (.aload_n 1, 1) := by decide +kernel
theorem dX0_copyFrom_2 : decode cX0_copyFrom 2 = .ok (.getfield 9, 3) := by decide +kernel
theorem dX0_copyFrom_5 : decode cX0_copyFrom 5 = .ok (.putfield 9, 3) := by decide +kernel
theorem dX0_copyFrom_8 : decode cX0_copyFrom 8 = .ok (.aload_n 0, 1) := by decide +kernel
theorem dX0_copyFrom_9 : decode cX0_copyFrom 9 = .ok (.aload_n 1, 1) := by decide +kernel
theorem dX0_copyFrom_10 : decode cX0_copyFrom 10 = .ok (.getfield 15, 3) := by decide +kernel
theorem dX0_copyFrom_13 : decode cX0_copyFrom 13 = .ok (.putfield 15, 3) := by decide +kernel
theorem dX0_copyFrom_16 : decode cX0_copyFrom 16 = .ok (.aload_n 0, 1) := by decide +kernel
theorem dX0_copyFrom_17 : decode cX0_copyFrom 17 = .ok (.aload_n 1, 1) := by decide +kernel
theorem dX0_copyFrom_18 : decode cX0_copyFrom 18 = .ok (.getfield 25, 3) := by decide +kernel
theorem dX0_copyFrom_21 : decode cX0_copyFrom 21 = .ok (.putfield 25, 3) := by decide +kernel
theorem dX0_copyFrom_24 : decode cX0_copyFrom 24 = .ok (.aload_n 1, 1) := by decide +kernel
theorem dX0_copyFrom_25 : decode cX0_copyFrom 25 = .ok (.getfield 18, 3) := by decide +kernel
theorem dX0_copyFrom_28 : decode cX0_copyFrom 28 = .ok (.iconst 0, 1) := by decide +kernel
theorem dX0_copyFrom_29 : decode cX0_copyFrom 29 = .ok (.aload_n 0, 1) := by decide +kernel
theorem dX0_copyFrom_30 : decode cX0_copyFrom 30 = .ok (.getfield 18, 3) := by decide +kernel
theorem dX0_copyFrom_33 : decode cX0_copyFrom 33 = .ok (.iconst 0, 1) := by decide +kernel
theorem dX0_copyFrom_34 : decode cX0_copyFrom 34 = .ok (.bipush 48, 2) := by decide +kernel
theorem dX0_copyFrom_36 : decode cX0_copyFrom 36 = .ok (.invokestatic 38, 3) := by decide +kernel
theorem dX0_copyFrom_39 : decode cX0_copyFrom 39 = .ok (.aload_n 1, 1) := by decide +kernel
theorem dX0_copyFrom_40 : decode cX0_copyFrom 40 = .ok (.getfield 22, 3) := by decide +kernel
theorem dX0_copyFrom_43 : decode cX0_copyFrom 43 = .ok (.iconst 0, 1) := by decide +kernel
theorem dX0_copyFrom_44 : decode cX0_copyFrom 44 = .ok (.aload_n 0, 1) := by decide +kernel
theorem dX0_copyFrom_45 : decode cX0_copyFrom 45 = .ok (.getfield 22, 3) := by decide +kernel
theorem dX0_copyFrom_48 : decode cX0_copyFrom 48 = .ok (.iconst 0, 1) := by decide +kernel
theorem dX0_copyFrom_49 : decode cX0_copyFrom 49 = .ok (.bipush 72, 2) := by decide +kernel
theorem dX0_copyFrom_51 : decode cX0_copyFrom 51 = .ok (.invokestatic 38, 3) := by decide +kernel
theorem dX0_copyFrom_54 : decode cX0_copyFrom 54 = .ok (.aload_n 1, 1) := by decide +kernel
theorem dX0_copyFrom_55 : decode cX0_copyFrom 55 = .ok (.getfield 28, 3) := by decide +kernel
theorem dX0_copyFrom_58 : decode cX0_copyFrom 58 = .ok (.iconst 0, 1) := by decide +kernel
theorem dX0_copyFrom_59 : decode cX0_copyFrom 59 = .ok (.aload_n 0, 1) := by decide +kernel
theorem dX0_copyFrom_60 : decode cX0_copyFrom 60 = .ok (.getfield 28, 3) := by decide +kernel
theorem dX0_copyFrom_63 : decode cX0_copyFrom 63 = .ok (.iconst 0, 1) := by decide +kernel
theorem dX0_copyFrom_64 : decode cX0_copyFrom 64 = .ok (.bipush 8, 2) := by decide +kernel
theorem dX0_copyFrom_66 : decode cX0_copyFrom 66 = .ok (.invokestatic 38, 3) := by decide +kernel
theorem dX0_copyFrom_69 : decode cX0_copyFrom 69 = .ok (.return_, 1) := by decide +kernel
theorem dX0_start_0 : decode cX0_start 0 = .ok (.aload_n 0, 1) := by decide +kernel
theorem dX0_start_1 : decode cX0_start 1 = .ok (.iload_n 1, 1) := by decide +kernel
theorem dX0_start_2 : decode cX0_start 2 = .ok (.putfield 9, 3) := by decide +kernel
theorem dX0_start_5 : decode cX0_start 5 = .ok (.aload_n 0, 1) := by decide +kernel
theorem dX0_start_6 : decode cX0_start 6 = .ok (.iload_n 2, 1) := by decide +kernel
theorem dX0_start_7 : decode cX0_start 7 = .ok (.putfield 15, 3) := by decide +kernel
theorem dX0_start_10 : decode cX0_start 10 = .ok (.aload_n 0, 1) := by decide +kernel
theorem dX0_start_11 : decode cX0_start 11 = .ok (.iconst 0, 1) := by decide +kernel
theorem dX0_start_12 : decode cX0_start 12 = .ok (.putfield 25, 3) := by decide +kernel
theorem dX0_start_15 : decode cX0_start 15 = .ok (.iconst 0, 1) := by decide +kernel
theorem dX0_start_16 : decode cX0_start 16 = .ok (.istore 4, 2) := by decide +kernel
theorem dX0_start_18 : decode cX0_start 18 = .ok (.iload 4, 2) := by decide +kernel
theorem dX0_start_20 : decode cX0_start 20 = .ok (.bipush 7, 2) := by decide +kernel
theorem dX0_start_22 : decode cX0_start 22 = .ok (.if_icmp .gt 17, 3) := by decide +kernel
theorem dX0_start_25 : decode cX0_start 25 = .ok (.aload_n 0, 1) := by decide +kernel
theorem dX0_start_26 : decode cX0_start 26 = .ok (.getfield 28, 3) := by decide +kernel
theorem dX0_start_29 : decode cX0_start 29 = .ok (.iload 4, 2) := by decide +kernel
theorem dX0_start_31 : decode cX0_start 31 = .ok (.iconst 0, 1) := by decide +kernel
theorem dX0_start_32 : decode cX0_start 32 = .ok (.iastore, 1) := by decide +kernel
theorem dX0_start_33 : decode cX0_start 33 = .ok (.iinc 4 1, 3) := by decide +kernel
theorem dX0_start_36 : decode cX0_start 36 = .ok (.goto (-18), 3) := by decide +kernel
theorem dX0_start_39 : decode cX0_start 39 = .ok (.iconst 0, 1) := by decide +kernel
theorem dX0_start_40 : decode cX0_start 40 = .ok (.istore 4, 2) := by decide +kernel
theorem dX0_start_42 : decode cX0_start 42 = .ok (.iload 4, 2) := by decide +kernel
theorem dX0_start_44 : decode cX0_start 44 = .ok (.bipush 6, 2) := by decide +kernel
theorem dX0_start_46 : decode cX0_start 46 = .ok (.if_icmp .ge 95, 3) := by decide +kernel
theorem dX0_start_49 : decode cX0_start 49 = .ok (.aload_n 0, 1) := by decide +kernel
theorem dX0_start_50 : decode cX0_start 50 = .ok (.iload 4, 2) := by decide +kernel
theorem dX0_start_52 : decode cX0_start 52 = .ok (.iconst 0, 1) := by decide +kernel
theorem dX0_start_53 : decode cX0_start 53 = .ok (.iconst 0, 1) := by decide +kernel
theorem dX0_start_54 : decode cX0_start 54 = .ok (.invokevirtual 44, 3) := by decide +kernel
theorem dX0_start_57 : decode cX0_start 57 = .ok (.aload_n 0, 1) := by decide +kernel
theorem dX0_start_58 : decode cX0_start 58 = .ok (.iload 4, 2) := by decide +kernel
theorem dX0_start_60 : decode cX0_start 60 = .ok (.iconst 1, 1) := by decide +kernel
theorem dX0_start_61 : decode cX0_start 61 = .ok (.aload_n 0, 1) := by decide +kernel
theorem dX0_start_62 : decode cX0_start 62 = .ok (.getfield 34, 3) := by decide +kernel
theorem dX0_start_65 : decode cX0_start 65 = .ok (.iload 4, 2) := by decide +kernel
theorem dX0_start_67 : decode cX0_start 67 = .ok (.invokevirtual 48, 3) := by decide +kernel
theorem dX0_start_70 : decode cX0_start 70 = .ok (.invokevirtual 44, 3) := by decide +kernel
theorem dX0_start_73 : decode cX0_start 73 = .ok (.aload_n 0, 1) := by decide +kernel
theorem dX0_start_74 : decode cX0_start 74 = .ok (.iload 4, 2) := by decide +kernel
theorem dX0_start_76 : decode cX0_start 76 = .ok (.iconst 2, 1) := by decide +kernel
theorem dX0_start_77 : decode cX0_start 77 = .ok (.iconst (-1), 1) := by decide +kernel
theorem dX0_start_78 : decode cX0_start 78 = .ok (.invokevirtual 44, 3) := by decide +kernel
theorem dX0_start_81 : decode cX0_start 81 = .ok (.aload_n 0, 1) := by decide +kernel
theorem dX0_start_82 : decode cX0_start 82 = .ok (.iload 4, 2) := by decide +kernel
theorem dX0_start_84 : decode cX0_start 84 = .ok (.iconst 3, 1) := by decide +kernel
theorem dX0_start_85 : decode cX0_start 85 = .ok (.iconst (-1), 1) := by decide +kernel
theorem dX0_start_86 : decode cX0_start 86 = .ok (.invokevirtual 44, 3) := by decide +kernel
theorem dX0_start_89 : decode cX0_start 89 = .ok (.aload_n 0, 1) := by decide +kernel
theorem dX0_start_90 : decode cX0_start 90 = .ok (.iload 4, 2) := by decide +kernel
theorem dX0_start_92 : decode cX0_start 92 = .ok (.iconst 4, 1) := by decide +kernel
theorem dX0_start_93 : decode cX0_start 93 = .ok (.iconst (-1), 1) := by decide +kernel
theorem dX0_start_94 : decode cX0_start 94 = .ok (.invokevirtual 44, 3) := by decide +kernel
theorem dX0_start_97 : decode cX0_start 97 = .ok (.aload_n 0, 1) := by decide +kernel
theorem dX0_start_98 : decode cX0_start 98 = .ok (.iload 4, 2) := by decide +kernel
theorem dX0_start_100 : decode cX0_start 100 = .ok (.iconst 5, 1) := by decide +kernel
theorem dX0_start_101 : decode cX0_start 101 = .ok (.iconst 0, 1) := by decide +kernel
theorem dX0_start_102 : decode cX0_start 102 = .ok (.invokevirtual 44, 3) := by decide +kernel
theorem dX0_start_105 : decode cX0_start 105 = .ok (.aload_n 0, 1) := by decide +kernel
theorem dX0_start_106 : decode cX0_start 106 = .ok (.iload 4, 2) := by decide +kernel
theorem dX0_start_108 : decode cX0_start 108 = .ok (.bipush 6, 2) := by decide +kernel
theorem dX0_start_110 : decode cX0_start 110 = .ok (.iconst (-1), 1) := by decide +kernel
theorem dX0_start_111 : decode cX0_start 111 = .ok (.invokevirtual 44, 3) := by decide +kernel
theorem dX0_start_114 : decode cX0_start 114 = .ok (.aload_n 0, 1) := by decide +kernel
theorem dX0_start_115 : decode cX0_start 115 = .ok (.iload 4, 2) := by decide +kernel
theorem dX0_start_117 : decode cX0_start 117 = .ok (.bipush 7, 2) := by decide +kernel
theorem dX0_start_119 : decode cX0_start 119 = .ok (.iload_n 3, 1) := by decide +kernel
theorem dX0_start_120 : decode cX0_start 120 = .ok (.i2l, 1) := by decide +kernel
theorem dX0_start_121 : decode cX0_start 121 = .ok (.iload 4, 2) := by decide +kernel
theorem dX0_start_123 : decode cX0_start 123 = .ok (.iconst 1, 1) := by decide +kernel
theorem dX0_start_124 : decode cX0_start 124 = .ok (.iadd, 1) := by decide +kernel
theorem dX0_start_125 : decode cX0_start 125 = .ok (.i2l, 1) := by decide +kernel
theorem dX0_start_126 : decode cX0_start 126 = .ok (.lmul, 1) := by decide +kernel
theorem dX0_start_127 : decode cX0_start 127 = .ok (.ldc2_w 54, 3) := by decide +kernel
theorem dX0_start_130 : decode cX0_start 130 = .ok (.lrem, 1) := by decide +kernel
theorem dX0_start_131 : decode cX0_start 131 = .ok (.l2i, 1) := by decide +kernel
theorem dX0_start_132 : decode cX0_start 132 = .ok (.invokevirtual 44, 3) := by decide +kernel
theorem dX0_start_135 : decode cX0_start 135 = .ok (.iinc 4 1, 3) := by decide +kernel
theorem dX0_start_138 : decode cX0_start 138 = .ok (.goto (-96), 3) := by decide +kernel
theorem dX0_start_141 : decode cX0_start 141 = .ok (.return_, 1) := by decide +kernel
theorem dX0_isBegun_0 : decode cX0_isBegun 0 = .ok (.aload_n 0, 1) := by decide +kernel
theorem dX0_isBegun_1 : decode cX0_isBegun 1 = .ok (.getfield 9, 3) := by decide +kernel
theorem dX0_isBegun_4 : decode cX0_isBegun 4 = .ok (.ifCond .eq 7, 3) := by decide +kernel
theorem dX0_isBegun_7 : decode cX0_isBegun 7 = .ok (.iconst 1, 1) := by decide +kernel
theorem dX0_isBegun_8 : decode cX0_isBegun 8 = .ok (.goto 4, 3) := by decide +kernel
theorem dX0_isBegun_11 : decode cX0_isBegun 11 = .ok (.iconst 0, 1) := by decide +kernel
theorem dX0_isBegun_12 : decode cX0_isBegun 12 = .ok (.ireturn, 1) := by decide +kernel
theorem dX0_cell_0 : decode cX0_cell 0 = .ok (.iload_n 1, 1) := by decide +kernel
theorem dX0_cell_1 : decode cX0_cell 1 = .ok (.bipush 8, 2) := by decide +kernel
theorem dX0_cell_3 : decode cX0_cell 3 = .ok (.imul, 1) := by decide +kernel
theorem dX0_cell_4 : decode cX0_cell 4 = .ok (.iload_n 2, 1) := by decide +kernel
theorem dX0_cell_5 : decode cX0_cell 5 = .ok (.iadd, 1) := by decide +kernel
theorem dX0_cell_6 : decode cX0_cell 6 = .ok (.istore_n 3, 1) := by decide +kernel
theorem dX0_cell_7 : decode cX0_cell 7 = .ok (.iload_n 3, 1) := by decide +kernel
theorem dX0_cell_8 : decode cX0_cell 8 = .ok (.ifCond .lt 21, 3) := by decide +kernel
theorem dX0_cell_11 : decode cX0_cell 11 = .ok (.iload_n 3, 1) := by decide +kernel
theorem dX0_cell_12 : decode cX0_cell 12 = .ok (.aload_n 0, 1) := by decide +kernel
theorem dX0_cell_13 : decode cX0_cell 13 = .ok (.getfield 18, 3) := by decide +kernel
theorem dX0_cell_16 : decode cX0_cell 16 = .ok (.arraylength, 1) := by decide +kernel
theorem dX0_cell_17 : decode cX0_cell 17 = .ok (.if_icmp .ge 12, 3) := by decide +kernel
theorem dX0_cell_20 : decode cX0_cell 20 = .ok (.aload_n 0, 1) := by decide +kernel
theorem dX0_cell_21 : decode cX0_cell 21 = .ok (.getfield 18, 3) := by decide +kernel
theorem dX0_cell_24 : decode cX0_cell 24 = .ok (.iload_n 3, 1) := by decide +kernel
theorem dX0_cell_25 : decode cX0_cell 25 = .ok (.iaload, 1) := by decide +kernel
theorem dX0_cell_26 : decode cX0_cell 26 = .ok (.goto 4, 3) := by decide +kernel
theorem dX0_cell_29 : decode cX0_cell 29 = .ok (.iconst (-1), 1) := by decide +kernel
theorem dX0_cell_30 : decode cX0_cell 30 = .ok (.ireturn, 1) := by decide +kernel
theorem dX0_setCell_0 : decode cX0_setCell 0 = .ok (.iload_n 1, 1) := by decide +kernel
theorem dX0_setCell_1 : decode cX0_setCell 1 = .ok (.bipush 8, 2) := by decide +kernel
theorem dX0_setCell_3 : decode cX0_setCell 3 = .ok (.imul, 1) := by decide +kernel
theorem dX0_setCell_4 : decode cX0_setCell 4 = .ok (.iload_n 2, 1) := by decide +kernel
theorem dX0_setCell_5 : decode cX0_setCell 5 = .ok (.iadd, 1) := by decide +kernel
theorem dX0_setCell_6 : decode cX0_setCell 6 = .ok (.istore 4, 2) := by decide +kernel
theorem dX0_setCell_8 : decode cX0_setCell 8 = .ok (.iload 4, 2) := by decide +kernel
theorem dX0_setCell_10 : decode cX0_setCell 10 = .ok (.ifCond .lt 21, 3) := by decide +kernel
theorem dX0_setCell_13 : decode cX0_setCell 13 = .ok (.iload 4, 2) := by decide +kernel
theorem dX0_setCell_15 : decode cX0_setCell 15 = .ok (.aload_n 0, 1) := by decide +kernel
theorem dX0_setCell_16 : decode cX0_setCell 16 = .ok (.getfield 18, 3) := by decide +kernel
theorem dX0_setCell_19 : decode cX0_setCell 19 = .ok (.arraylength, 1) := by decide +kernel
theorem dX0_setCell_20 : decode cX0_setCell 20 = .ok (.if_icmp .ge 11, 3) := by decide +kernel
theorem dX0_setCell_23 : decode cX0_setCell 23 = .ok (.aload_n 0, 1) := by decide +kernel
theorem dX0_setCell_24 : decode cX0_setCell 24 = .ok (.getfield 18, 3) := by decide +kernel
theorem dX0_setCell_27 : decode cX0_setCell 27 = .ok (.iload 4, 2) := by decide +kernel
theorem dX0_setCell_29 : decode cX0_setCell 29 = .ok (.iload_n 3, 1) := by decide +kernel
theorem dX0_setCell_30 : decode cX0_setCell 30 = .ok (.iastore, 1) := by decide +kernel
theorem dX0_setCell_31 : decode cX0_setCell 31 = .ok (.return_, 1) := by decide +kernel
theorem dX0_letterCell_0 : decode cX0_letterCell 0 = .ok (.iload_n 1, 1) := by decide +kernel
theorem dX0_letterCell_1 : decode cX0_letterCell 1 = .ok (.bipush 6, 2) := by decide +kernel
theorem dX0_letterCell_3 : decode cX0_letterCell 3 = .ok (.imul, 1) := by decide +kernel
theorem dX0_letterCell_4 : decode cX0_letterCell 4 = .ok (.iload_n 2, 1) := by decide +kernel
theorem dX0_letterCell_5 : decode cX0_letterCell 5 = .ok (.iadd, 1) := by decide +kernel
theorem dX0_letterCell_6 : decode cX0_letterCell 6 = .ok (.istore_n 3, 1) := by decide +kernel
theorem dX0_letterCell_7 : decode cX0_letterCell 7 = .ok (.iload_n 3, 1) := by decide +kernel
theorem dX0_letterCell_8 : decode cX0_letterCell 8 = .ok (.ifCond .lt 21, 3) := by decide +kernel
theorem dX0_letterCell_11 : decode cX0_letterCell 11 = .ok (.iload_n 3, 1) := by decide +kernel
theorem dX0_letterCell_12 : decode cX0_letterCell 12 = .ok (.aload_n 0, 1) := by decide +kernel
theorem dX0_letterCell_13 : decode cX0_letterCell 13 = .ok (.getfield 22, 3) := by decide +kernel
theorem dX0_letterCell_16 : decode cX0_letterCell 16 = .ok (.arraylength, 1) := by decide +kernel
theorem dX0_letterCell_17 : decode cX0_letterCell 17 = .ok (.if_icmp .ge 12, 3) := by decide +kernel
theorem dX0_letterCell_20 : decode cX0_letterCell 20 = .ok (.aload_n 0, 1) := by decide +kernel
theorem dX0_letterCell_21 : decode cX0_letterCell 21 = .ok (.getfield 22, 3) := by decide +kernel
theorem dX0_letterCell_24 : decode cX0_letterCell 24 = .ok (.iload_n 3, 1) := by decide +kernel
theorem dX0_letterCell_25 : decode cX0_letterCell 25 = .ok (.iaload, 1) := by decide +kernel
theorem dX0_letterCell_26 : decode cX0_letterCell 26 = .ok (.goto 4, 3) := by decide +kernel
theorem dX0_letterCell_29 : decode cX0_letterCell 29 = .ok (.iconst (-1), 1) := by decide +kernel
theorem dX0_letterCell_30 : decode cX0_letterCell 30 = .ok (.ireturn, 1) := by decide +kernel
theorem dX0_sentOf_0 : decode cX0_sentOf 0 = .ok (.iload_n 1, 1) := by decide +kernel
theorem dX0_sentOf_1 : decode cX0_sentOf 1 = .ok (.iconst 0, 1) := by decide +kernel
theorem dX0_sentOf_2 : decode cX0_sentOf 2 = .ok (.bipush 7, 2) := by decide +kernel
theorem dX0_sentOf_4 : decode cX0_sentOf 4 = .ok (.invokestatic 56, 3) := by decide +kernel
theorem dX0_sentOf_7 : decode cX0_sentOf 7 = .ok (.ifCond .eq 12, 3) := by decide +kernel
theorem dX0_sentOf_10 : decode cX0_sentOf 10 = .ok (.aload_n 0, 1) := by decide +kernel
theorem dX0_sentOf_11 : decode cX0_sentOf 11 = .ok (.getfield 28, 3) := by decide +kernel
theorem dX0_sentOf_14 : decode cX0_sentOf 14 = .ok (.iload_n 1, 1) := by decide +kernel
theorem dX0_sentOf_15 : decode cX0_sentOf 15 = .ok (.iaload, 1) := by decide +kernel
theorem dX0_sentOf_16 : decode cX0_sentOf 16 = .ok (.goto 4, 3) := by decide +kernel
theorem dX0_sentOf_19 : decode cX0_sentOf 19 = .ok (.iconst 0, 1) := by decide +kernel
theorem dX0_sentOf_20 : decode cX0_sentOf 20 = .ok (.ireturn, 1) := by decide +kernel
theorem dX0_inState_0 : decode cX0_inState 0 = .ok (.iconst 0, 1) := by decide +kernel
theorem dX0_inState_1 : decode cX0_inState 1 = .ok (.istore_n 2, 1) := by decide +kernel
theorem dX0_inState_2 : decode cX0_inState 2 = .ok (.aload_n 0, 1) := by decide +kernel
theorem dX0_inState_3 : decode cX0_inState 3 = .ok (.invokevirtual 60, 3) := by decide +kernel
theorem dX0_inState_6 : decode cX0_inState 6 = .ok (.ifCond .eq 13, 3) := by decide +kernel
theorem dX0_inState_9 : decode cX0_inState 9 = .ok (.aload_n 0, 1) := by decide +kernel
theorem dX0_inState_10 : decode cX0_inState 10 = .ok (.getfield 34, 3) := by decide +kernel
theorem dX0_inState_13 : decode cX0_inState 13 = .ok (.getfield 64, 3) := by decide +kernel
theorem dX0_inState_16 : decode cX0_inState 16 = .ok (.goto 4, 3) := by decide +kernel
theorem dX0_inState_19 : decode cX0_inState 19 = .ok (.iconst 0, 1) := by decide +kernel
theorem dX0_inState_20 : decode cX0_inState 20 = .ok (.istore_n 3, 1) := by decide +kernel
theorem dX0_inState_21 : decode cX0_inState 21 = .ok (.iconst 0, 1) := by decide +kernel
theorem dX0_inState_22 : decode cX0_inState 22 = .ok (.istore 4, 2) := by decide +kernel
theorem dX0_inState_24 : decode cX0_inState 24 = .ok (.iload 4, 2) := by decide +kernel
theorem dX0_inState_26 : decode cX0_inState 26 = .ok (.iload_n 3, 1) := by decide +kernel
theorem dX0_inState_27 : decode cX0_inState 27 = .ok (.if_icmp .ge 28, 3) := by decide +kernel
theorem dX0_inState_30 : decode cX0_inState 30 = .ok (.iload_n 2, 1) := by decide +kernel
theorem dX0_inState_31 : decode cX0_inState 31 = .ok (.aload_n 0, 1) := by decide +kernel
theorem dX0_inState_32 : decode cX0_inState 32 = .ok (.iload 4, 2) := by decide +kernel
theorem dX0_inState_34 : decode cX0_inState 34 = .ok (.iconst 0, 1) := by decide +kernel
theorem dX0_inState_35 : decode cX0_inState 35 = .ok (.invokevirtual 67, 3) := by decide +kernel
theorem dX0_inState_38 : decode cX0_inState 38 = .ok (.iload_n 1, 1) := by decide +kernel
theorem dX0_inState_39 : decode cX0_inState 39 = .ok (.if_icmp .ne 7, 3) := by decide +kernel
theorem dX0_inState_42 : decode cX0_inState 42 = .ok (.iconst 1, 1) := by decide +kernel
theorem dX0_inState_43 : decode cX0_inState 43 = .ok (.goto 4, 3) := by decide +kernel
theorem dX0_inState_46 : decode cX0_inState 46 = .ok (.iconst 0, 1) := by decide +kernel
theorem dX0_inState_47 : decode cX0_inState 47 = .ok (.iadd, 1) := by decide +kernel
theorem dX0_inState_48 : decode cX0_inState 48 = .ok (.istore_n 2, 1) := by decide +kernel
theorem dX0_inState_49 : decode cX0_inState 49 = .ok (.iinc 4 1, 3) := by decide +kernel
theorem dX0_inState_52 : decode cX0_inState 52 = .ok (.goto (-28), 3) := by decide +kernel
theorem dX0_inState_55 : decode cX0_inState 55 = .ok (.iload_n 2, 1) := by decide +kernel
theorem dX0_inState_56 : decode cX0_inState 56 = .ok (.ireturn, 1) := by decide +kernel
theorem dX0_head_0 : decode cX0_head 0 = .ok (.iconst 0, 1) := by decide +kernel
theorem dX0_head_1 : decode cX0_head 1 = .ok (.istore_n 1, 1) := by decide +kernel
theorem dX0_head_2 : decode cX0_head 2 = .ok (.iload_n 1, 1) := by decide +kernel
theorem dX0_head_3 : decode cX0_head 3 = .ok (.aload_n 0, 1) := by decide +kernel
theorem dX0_head_4 : decode cX0_head 4 = .ok (.getfield 34, 3) := by decide +kernel
theorem dX0_head_7 : decode cX0_head 7 = .ok (.getfield 64, 3) := by decide +kernel
theorem dX0_head_10 : decode cX0_head 10 = .ok (.if_icmp .ge 21, 3) := by decide +kernel
theorem dX0_head_13 : decode cX0_head 13 = .ok (.aload_n 0, 1) := by decide +kernel
theorem dX0_head_14 : decode cX0_head 14 = .ok (.iload_n 1, 1) := by decide +kernel
theorem dX0_head_15 : decode cX0_head 15 = .ok (.iconst 0, 1) := by decide +kernel
theorem dX0_head_16 : decode cX0_head 16 = .ok (.invokevirtual 67, 3) := by decide +kernel
theorem dX0_head_19 : decode cX0_head 19 = .ok (.iconst 3, 1) := by decide +kernel
theorem dX0_head_20 : decode cX0_head 20 = .ok (.if_icmp .ne 5, 3) := by decide +kernel
theorem dX0_head_23 : decode cX0_head 23 = .ok (.iload_n 1, 1) := by decide +kernel
theorem dX0_head_24 : decode cX0_head 24 = .ok (.ireturn, 1) := by decide +kernel
theorem dX0_head_25 : decode cX0_head 25 = .ok (.iinc 1 1, 3) := by decide +kernel
theorem dX0_head_28 : decode cX0_head 28 = .ok (.goto (-26), 3) := by decide +kernel
theorem dX0_head_31 : decode cX0_head 31 = .ok (.iconst (-1), 1) := by decide +kernel
theorem dX0_head_32 : decode cX0_head 32 = .ok (.ireturn, 1) := by decide +kernel
theorem dX0_lettersOn_0 : decode cX0_lettersOn 0 = .ok (.iconst 0, 1) := by decide +kernel
theorem dX0_lettersOn_1 : decode cX0_lettersOn 1 = .ok (.istore_n 2, 1) := by decide +kernel
theorem dX0_lettersOn_2 : decode cX0_lettersOn 2 = .ok (.iconst 0, 1) := by decide +kernel
theorem dX0_lettersOn_3 : decode cX0_lettersOn 3 = .ok (.istore_n 3, 1) := by decide +kernel
theorem dX0_lettersOn_4 : decode cX0_lettersOn 4 = .ok (.iload_n 3, 1) := by decide +kernel
theorem dX0_lettersOn_5 : decode cX0_lettersOn 5 = .ok (.aload_n 0, 1) := by decide +kernel
theorem dX0_lettersOn_6 : decode cX0_lettersOn 6 = .ok (.getfield 25, 3) := by decide +kernel
theorem dX0_lettersOn_9 : decode cX0_lettersOn 9 = .ok (.if_icmp .ge 27, 3) := by decide +kernel
theorem dX0_lettersOn_12 : decode cX0_lettersOn 12 = .ok (.iload_n 2, 1) := by decide +kernel
theorem dX0_lettersOn_13 : decode cX0_lettersOn 13 = .ok (.aload_n 0, 1) := by decide +kernel
theorem dX0_lettersOn_14 : decode cX0_lettersOn 14 = .ok (.iload_n 3, 1) := by decide +kernel
theorem dX0_lettersOn_15 : decode cX0_lettersOn 15 = .ok (.iconst 0, 1) := by decide +kernel
theorem dX0_lettersOn_16 : decode cX0_lettersOn 16 = .ok (.invokevirtual 71, 3) := by decide +kernel
theorem dX0_lettersOn_19 : decode cX0_lettersOn 19 = .ok (.iload_n 1, 1) := by decide +kernel
theorem dX0_lettersOn_20 : decode cX0_lettersOn 20 = .ok (.if_icmp .ne 7, 3) := by decide +kernel
theorem dX0_lettersOn_23 : decode cX0_lettersOn 23 = .ok (.iconst 1, 1) := by decide +kernel
theorem dX0_lettersOn_24 : decode cX0_lettersOn 24 = .ok (.goto 4, 3) := by decide +kernel
theorem dX0_lettersOn_27 : decode cX0_lettersOn 27 = .ok (.iconst 0, 1) := by decide +kernel
theorem dX0_lettersOn_28 : decode cX0_lettersOn 28 = .ok (.iadd, 1) := by decide +kernel
theorem dX0_lettersOn_29 : decode cX0_lettersOn 29 = .ok (.istore_n 2, 1) := by decide +kernel
theorem dX0_lettersOn_30 : decode cX0_lettersOn 30 = .ok (.iinc 3 1, 3) := by decide +kernel
theorem dX0_lettersOn_33 : decode cX0_lettersOn 33 = .ok (.goto (-29), 3) := by decide +kernel
theorem dX0_lettersOn_36 : decode cX0_lettersOn 36 = .ok (.iload_n 2, 1) := by decide +kernel
theorem dX0_lettersOn_37 : decode cX0_lettersOn 37 = .ok (.ireturn, 1) := by decide +kernel
theorem dX0_placeOf_0 : decode cX0_placeOf 0 = .ok (.iconst 0, 1) := by decide +kernel
theorem dX0_placeOf_1 : decode cX0_placeOf 1 = .ok (.istore_n 3, 1) := by decide +kernel
theorem dX0_placeOf_2 : decode cX0_placeOf 2 = .ok (.iconst 0, 1) := by decide +kernel
theorem dX0_placeOf_3 : decode cX0_placeOf 3 = .ok (.istore 4, 2) := by decide +kernel
theorem dX0_placeOf_5 : decode cX0_placeOf 5 = .ok (.iload 4, 2) := by decide +kernel
theorem dX0_placeOf_7 : decode cX0_placeOf 7 = .ok (.aload_n 0, 1) := by decide +kernel
theorem dX0_placeOf_8 : decode cX0_placeOf 8 = .ok (.getfield 25, 3) := by decide +kernel
theorem dX0_placeOf_11 : decode cX0_placeOf 11 = .ok (.if_icmp .ge 31, 3) := by decide +kernel
theorem dX0_placeOf_14 : decode cX0_placeOf 14 = .ok (.aload_n 0, 1) := by decide +kernel
theorem dX0_placeOf_15 : decode cX0_placeOf 15 = .ok (.iload 4, 2) := by decide +kernel
theorem dX0_placeOf_17 : decode cX0_placeOf 17 = .ok (.iconst 0, 1) := by decide +kernel
theorem dX0_placeOf_18 : decode cX0_placeOf 18 = .ok (.invokevirtual 71, 3) := by decide +kernel
theorem dX0_placeOf_21 : decode cX0_placeOf 21 = .ok (.iload_n 1, 1) := by decide +kernel
theorem dX0_placeOf_22 : decode cX0_placeOf 22 = .ok (.if_icmp .ne 14, 3) := by decide +kernel
theorem dX0_placeOf_25 : decode cX0_placeOf 25 = .ok (.iload_n 3, 1) := by decide +kernel
theorem dX0_placeOf_26 : decode cX0_placeOf 26 = .ok (.iload_n 2, 1) := by decide +kernel
theorem dX0_placeOf_27 : decode cX0_placeOf 27 = .ok (.if_icmp .ne 6, 3) := by decide +kernel
theorem dX0_placeOf_30 : decode cX0_placeOf 30 = .ok (.iload 4, 2) := by decide +kernel
theorem dX0_placeOf_32 : decode cX0_placeOf 32 = .ok (.ireturn, 1) := by decide +kernel
theorem dX0_placeOf_33 : decode cX0_placeOf 33 = .ok (.iinc 3 1, 3) := by decide +kernel
theorem dX0_placeOf_36 : decode cX0_placeOf 36 = .ok (.iinc 4 1, 3) := by decide +kernel
theorem dX0_placeOf_39 : decode cX0_placeOf 39 = .ok (.goto (-34), 3) := by decide +kernel
theorem dX0_placeOf_42 : decode cX0_placeOf 42 = .ok (.iconst (-1), 1) := by decide +kernel
theorem dX0_placeOf_43 : decode cX0_placeOf 43 = .ok (.ireturn, 1) := by decide +kernel
theorem dX0_isBusy_0 : decode cX0_isBusy 0 = .ok (.aload_n 0, 1) := by decide +kernel
theorem dX0_isBusy_1 : decode cX0_isBusy 1 = .ok (.iload_n 1, 1) := by decide +kernel
theorem dX0_isBusy_2 : decode cX0_isBusy 2 = .ok (.iconst 0, 1) := by decide +kernel
theorem dX0_isBusy_3 : decode cX0_isBusy 3 = .ok (.invokevirtual 74, 3) := by decide +kernel
theorem dX0_isBusy_6 : decode cX0_isBusy 6 = .ok (.iconst (-1), 1) := by decide +kernel
theorem dX0_isBusy_7 : decode cX0_isBusy 7 = .ok (.if_icmp .eq 7, 3) := by decide +kernel
theorem dX0_isBusy_10 : decode cX0_isBusy 10 = .ok (.iconst 1, 1) := by decide +kernel
theorem dX0_isBusy_11 : decode cX0_isBusy 11 = .ok (.goto 4, 3) := by decide +kernel
theorem dX0_isBusy_14 : decode cX0_isBusy 14 = .ok (.iconst 0, 1) := by decide +kernel
theorem dX0_isBusy_15 : decode cX0_isBusy 15 = .ok (.ireturn, 1) := by decide +kernel
theorem dX0_busyLinks_0 : decode cX0_busyLinks 0 = .ok (.iconst 0, 1) := by decide +kernel
theorem dX0_busyLinks_1 : decode cX0_busyLinks 1 = .ok (.istore_n 1, 1) := by decide +kernel
theorem dX0_busyLinks_2 : decode cX0_busyLinks 2 = .ok (.iconst 0, 1) := by decide +kernel
theorem dX0_busyLinks_3 : decode cX0_busyLinks 3 = .ok (.istore_n 2, 1) := by decide +kernel
theorem dX0_busyLinks_4 : decode cX0_busyLinks 4 = .ok (.iload_n 2, 1) := by decide +kernel
theorem dX0_busyLinks_5 : decode cX0_busyLinks 5 = .ok (.iconst 2, 1) := by decide +kernel
theorem dX0_busyLinks_6 : decode cX0_busyLinks 6 = .ok (.aload_n 0, 1) := by decide +kernel
theorem dX0_busyLinks_7 : decode cX0_busyLinks 7 = .ok (.getfield 34, 3) := by decide +kernel
theorem dX0_busyLinks_10 : decode cX0_busyLinks 10 = .ok (.getfield 64, 3) := by decide +kernel
theorem dX0_busyLinks_13 : decode cX0_busyLinks 13 = .ok (.imul, 1) := by decide +kernel
theorem dX0_busyLinks_14 : decode cX0_busyLinks 14 = .ok (.if_icmp .ge 25, 3) := by decide +kernel
theorem dX0_busyLinks_17 : decode cX0_busyLinks 17 = .ok (.iload_n 1, 1) := by decide +kernel
theorem dX0_busyLinks_18 : decode cX0_busyLinks 18 = .ok (.aload_n 0, 1) := by decide +kernel
theorem dX0_busyLinks_19 : decode cX0_busyLinks 19 = .ok (.iload_n 2, 1) := by decide +kernel
theorem dX0_busyLinks_20 : decode cX0_busyLinks 20 = .ok (.invokevirtual 77, 3) := by decide +kernel
theorem dX0_busyLinks_23 : decode cX0_busyLinks 23 = .ok (.ifCond .eq 7, 3) := by decide +kernel
theorem dX0_busyLinks_26 : decode cX0_busyLinks 26 = .ok (.iconst 1, 1) := by decide +kernel
theorem dX0_busyLinks_27 : decode cX0_busyLinks 27 = .ok (.goto 4, 3) := by decide +kernel
theorem dX0_busyLinks_30 : decode cX0_busyLinks 30 = .ok (.iconst 0, 1) := by decide +kernel
theorem dX0_busyLinks_31 : decode cX0_busyLinks 31 = .ok (.iadd, 1) := by decide +kernel
theorem dX0_busyLinks_32 : decode cX0_busyLinks 32 = .ok (.istore_n 1, 1) := by decide +kernel
theorem dX0_busyLinks_33 : decode cX0_busyLinks 33 = .ok (.iinc 2 1, 3) := by decide +kernel
theorem dX0_busyLinks_36 : decode cX0_busyLinks 36 = .ok (.goto (-32), 3) := by decide +kernel
theorem dX0_busyLinks_39 : decode cX0_busyLinks 39 = .ok (.iload_n 1, 1) := by decide +kernel
theorem dX0_busyLinks_40 : decode cX0_busyLinks 40 = .ok (.ireturn, 1) := by decide +kernel
theorem dX0_deliverMany_0 : decode cX0_deliverMany 0 = .ok (.iconst (-1), 1) := by decide +kernel
theorem dX0_deliverMany_1 : decode cX0_deliverMany 1 = .ok (.istore 4, 2) := by decide +kernel
theorem dX0_deliverMany_3 : decode cX0_deliverMany 3 = .ok (.iload_n 2, 1) := by decide +kernel
theorem dX0_deliverMany_4 : decode cX0_deliverMany 4 = .ok (.istore 5, 2) := by decide +kernel
theorem dX0_deliverMany_6 : decode cX0_deliverMany 6 = .ok (.iconst 0, 1) := by decide +kernel
theorem dX0_deliverMany_7 : decode cX0_deliverMany 7 = .ok (.istore 6, 2) := by decide +kernel
theorem dX0_deliverMany_9 : decode cX0_deliverMany 9 = .ok (.iload 6, 2) := by decide +kernel
theorem dX0_deliverMany_11 : decode cX0_deliverMany 11 = .ok (.iload_n 3, 1) := by decide +kernel
theorem dX0_deliverMany_12 : decode cX0_deliverMany 12 = .ok (.if_icmp .ge 41, 3) := by decide +kernel
theorem dX0_deliverMany_15 : decode cX0_deliverMany 15 = .ok (.aload_n 0, 1) := by decide +kernel
theorem dX0_deliverMany_16 : decode cX0_deliverMany 16 = .ok (.getfield 25, 3) := by decide +kernel
theorem dX0_deliverMany_19 : decode cX0_deliverMany 19 = .ok (.ifCond .le 34, 3) := by decide +kernel
theorem dX0_deliverMany_22 : decode cX0_deliverMany 22 = .ok (.iload 5, 2) := by decide +kernel
theorem dX0_deliverMany_24 : decode cX0_deliverMany 24 = .ok (.invokestatic 81, 3) := by decide +kernel
theorem dX0_deliverMany_27 : decode cX0_deliverMany 27 = .ok (.istore 5, 2) := by decide +kernel
theorem dX0_deliverMany_29 : decode cX0_deliverMany 29 = .ok (.aload_n 0, 1) := by decide +kernel
theorem dX0_deliverMany_30 : decode cX0_deliverMany 30 = .ok (.iload_n 1, 1) := by decide +kernel
theorem dX0_deliverMany_31 : decode cX0_deliverMany 31 = .ok (.iload 4, 2) := by decide +kernel
theorem dX0_deliverMany_33 : decode cX0_deliverMany 33 = .ok (.iload 5, 2) := by decide +kernel
theorem dX0_deliverMany_35 : decode cX0_deliverMany 35 = .ok (.invokevirtual 84, 3) := by decide +kernel
theorem dX0_deliverMany_38 : decode cX0_deliverMany 38 = .ok (.istore 4, 2) := by decide +kernel
theorem dX0_deliverMany_40 : decode cX0_deliverMany 40 = .ok (.aload_n 0, 1) := by decide +kernel
theorem dX0_deliverMany_41 : decode cX0_deliverMany 41 = .ok (.iload 4, 2) := by decide +kernel
theorem dX0_deliverMany_43 : decode cX0_deliverMany 43 = .ok (.invokevirtual 88, 3) := by decide +kernel
theorem dX0_deliverMany_46 : decode cX0_deliverMany 46 = .ok (.pop, 1) := by decide +kernel
theorem dX0_deliverMany_47 : decode cX0_deliverMany 47 = .ok (.iinc 6 1, 3) := by decide +kernel
theorem dX0_deliverMany_50 : decode cX0_deliverMany 50 = .ok (.goto (-41), 3) := by decide +kernel
theorem dX0_deliverMany_53 : decode cX0_deliverMany 53 = .ok (.iload 6, 2) := by decide +kernel
theorem dX0_deliverMany_55 : decode cX0_deliverMany 55 = .ok (.ireturn, 1) := by decide +kernel
theorem dX0_chosenLine_0 : decode cX0_chosenLine 0 = .ok (.iload_n 1, 1) := by decide +kernel
theorem dX0_chosenLine_1 : decode cX0_chosenLine 1 = .ok (.tableswitch 44 0 2 #[27, 33, 38], 27) := by decide +kernel
theorem dX0_chosenLine_28 : decode cX0_chosenLine 28 = .ok (.aload_n 0, 1) := by decide +kernel
theorem dX0_chosenLine_29 : decode cX0_chosenLine 29 = .ok (.iconst (-1), 1) := by decide +kernel
theorem dX0_chosenLine_30 : decode cX0_chosenLine 30 = .ok (.invokevirtual 91, 3) := by decide +kernel
theorem dX0_chosenLine_33 : decode cX0_chosenLine 33 = .ok (.ireturn, 1) := by decide +kernel
theorem dX0_chosenLine_34 : decode cX0_chosenLine 34 = .ok (.aload_n 0, 1) := by decide +kernel
theorem dX0_chosenLine_35 : decode cX0_chosenLine 35 = .ok (.invokevirtual 94, 3) := by decide +kernel
theorem dX0_chosenLine_38 : decode cX0_chosenLine 38 = .ok (.ireturn, 1) := by decide +kernel
theorem dX0_chosenLine_39 : decode cX0_chosenLine 39 = .ok (.aload_n 0, 1) := by decide +kernel
theorem dX0_chosenLine_40 : decode cX0_chosenLine 40 = .ok (.iload_n 2, 1) := by decide +kernel
theorem dX0_chosenLine_41 : decode cX0_chosenLine 41 = .ok (.invokevirtual 98, 3) := by decide +kernel
theorem dX0_chosenLine_44 : decode cX0_chosenLine 44 = .ok (.ireturn, 1) := by decide +kernel
theorem dX0_chosenLine_45 : decode cX0_chosenLine 45 = .ok (.aload_n 0, 1) := by decide +kernel
theorem dX0_chosenLine_46 : decode cX0_chosenLine 46 = .ok (.iload_n 3, 1) := by decide +kernel
theorem dX0_chosenLine_47 : decode cX0_chosenLine 47 = .ok (.invokevirtual 101, 3) := by decide +kernel
theorem dX0_chosenLine_50 : decode cX0_chosenLine 50 = .ok (.ireturn, 1) := by decide +kernel
theorem dX0_nextBusyRound_0 : decode cX0_nextBusyRound 0 = .ok (.aload_n 0, 1) := by decide +kernel
theorem dX0_nextBusyRound_1 : decode cX0_nextBusyRound 1 = .ok (.iload_n 1, 1) := by decide +kernel
theorem dX0_nextBusyRound_2 : decode cX0_nextBusyRound 2 = .ok (.invokevirtual 91, 3) := by decide +kernel
theorem dX0_nextBusyRound_5 : decode cX0_nextBusyRound 5 = .ok (.istore_n 2, 1) := by decide +kernel
theorem dX0_nextBusyRound_6 : decode cX0_nextBusyRound 6 = .ok (.iload_n 2, 1) := by decide +kernel
theorem dX0_nextBusyRound_7 : decode cX0_nextBusyRound 7 = .ok (.iconst (-1), 1) := by decide +kernel
theorem dX0_nextBusyRound_8 : decode cX0_nextBusyRound 8 = .ok (.if_icmp .eq 7, 3) := by decide +kernel
theorem dX0_nextBusyRound_11 : decode cX0_nextBusyRound 11 = .ok (.iload_n 2, 1) := by decide +kernel
theorem dX0_nextBusyRound_12 : decode cX0_nextBusyRound 12 = .ok (.goto 8, 3) := by decide +kernel
theorem dX0_nextBusyRound_15 : decode cX0_nextBusyRound 15 = .ok (.aload_n 0, 1) := by decide +kernel
theorem dX0_nextBusyRound_16 : decode cX0_nextBusyRound 16 = .ok (.iconst (-1), 1) := by decide +kernel
theorem dX0_nextBusyRound_17 : decode cX0_nextBusyRound 17 = .ok (.invokevirtual 91, 3) := by decide +kernel
theorem dX0_nextBusyRound_20 : decode cX0_nextBusyRound 20 = .ok (.ireturn, 1) := by decide +kernel
theorem dX0_leastBusyAfter_0 : decode cX0_leastBusyAfter 0 = .ok (.iload_n 1, 1) := by decide +kernel
theorem dX0_leastBusyAfter_1 : decode cX0_leastBusyAfter 1 = .ok (.iconst 1, 1) := by decide +kernel
theorem dX0_leastBusyAfter_2 : decode cX0_leastBusyAfter 2 = .ok (.iadd, 1) := by decide +kernel
theorem dX0_leastBusyAfter_3 : decode cX0_leastBusyAfter 3 = .ok (.istore_n 2, 1) := by decide +kernel
theorem dX0_leastBusyAfter_4 : decode cX0_leastBusyAfter 4 = .ok (.iload_n 2, 1) := by decide +kernel
theorem dX0_leastBusyAfter_5 : decode cX0_leastBusyAfter 5 = .ok (.iconst 2, 1) := by decide +kernel
theorem dX0_leastBusyAfter_6 : decode cX0_leastBusyAfter 6 = .ok (.aload_n 0, 1) := by decide +kernel
theorem dX0_leastBusyAfter_7 : decode cX0_leastBusyAfter 7 = .ok (.getfield 34, 3) := by decide +kernel
theorem dX0_leastBusyAfter_10 : decode cX0_leastBusyAfter 10 = .ok (.getfield 64, 3) := by decide +kernel
theorem dX0_leastBusyAfter_13 : decode cX0_leastBusyAfter 13 = .ok (.imul, 1) := by decide +kernel
theorem dX0_leastBusyAfter_14 : decode cX0_leastBusyAfter 14 = .ok (.if_icmp .ge 19, 3) := by decide +kernel
theorem dX0_leastBusyAfter_17 : decode cX0_leastBusyAfter 17 = .ok (.aload_n 0, 1) := by decide +kernel
theorem dX0_leastBusyAfter_18 : decode cX0_leastBusyAfter 18 = .ok (.iload_n 2, 1) := by decide +kernel
theorem dX0_leastBusyAfter_19 : decode cX0_leastBusyAfter 19 = .ok (.invokevirtual 77, 3) := by decide +kernel
theorem dX0_leastBusyAfter_22 : decode cX0_leastBusyAfter 22 = .ok (.ifCond .eq 5, 3) := by decide +kernel
theorem dX0_leastBusyAfter_25 : decode cX0_leastBusyAfter 25 = .ok (.iload_n 2, 1) := by decide +kernel
theorem dX0_leastBusyAfter_26 : decode cX0_leastBusyAfter 26 = .ok (.ireturn, 1) := by decide +kernel
theorem dX0_leastBusyAfter_27 : decode cX0_leastBusyAfter 27 = .ok (.iinc 2 1, 3) := by decide +kernel
theorem dX0_leastBusyAfter_30 : decode cX0_leastBusyAfter 30 = .ok (.goto (-26), 3) := by decide +kernel
theorem dX0_leastBusyAfter_33 : decode cX0_leastBusyAfter 33 = .ok (.iconst (-1), 1) := by decide +kernel
theorem dX0_leastBusyAfter_34 : decode cX0_leastBusyAfter 34 = .ok (.ireturn, 1) := by decide +kernel
theorem dX0_greatestBusy_0 : decode cX0_greatestBusy 0 = .ok (.iconst 2, 1) := by decide +kernel
theorem dX0_greatestBusy_1 : decode cX0_greatestBusy 1 = .ok (.aload_n 0, 1) := by decide +kernel
theorem dX0_greatestBusy_2 : decode cX0_greatestBusy 2 = .ok (.getfield 34, 3) := by decide +kernel
theorem dX0_greatestBusy_5 : decode cX0_greatestBusy 5 = .ok (.getfield 64, 3) := by decide +kernel
theorem dX0_greatestBusy_8 : decode cX0_greatestBusy 8 = .ok (.imul, 1) := by decide +kernel
theorem dX0_greatestBusy_9 : decode cX0_greatestBusy 9 = .ok (.iconst 1, 1) := by decide +kernel
theorem dX0_greatestBusy_10 : decode cX0_greatestBusy 10 = .ok (.isub, 1) := by decide +kernel
theorem dX0_greatestBusy_11 : decode cX0_greatestBusy 11 = .ok (.istore_n 1, 1) := by decide +kernel
theorem dX0_greatestBusy_12 : decode cX0_greatestBusy 12 = .ok (.iload_n 1, 1) := by decide +kernel
theorem dX0_greatestBusy_13 : decode cX0_greatestBusy 13 = .ok (.ifCond .lt 19, 3) := by decide +kernel
theorem dX0_greatestBusy_16 : decode cX0_greatestBusy 16 = .ok (.aload_n 0, 1) := by decide +kernel
theorem dX0_greatestBusy_17 : decode cX0_greatestBusy 17 = .ok (.iload_n 1, 1) := by decide +kernel
theorem dX0_greatestBusy_18 : decode cX0_greatestBusy 18 = .ok (.invokevirtual 77, 3) := by decide +kernel
theorem dX0_greatestBusy_21 : decode cX0_greatestBusy 21 = .ok (.ifCond .eq 5, 3) := by decide +kernel
theorem dX0_greatestBusy_24 : decode cX0_greatestBusy 24 = .ok (.iload_n 1, 1) := by decide +kernel
theorem dX0_greatestBusy_25 : decode cX0_greatestBusy 25 = .ok (.ireturn, 1) := by decide +kernel
theorem dX0_greatestBusy_26 : decode cX0_greatestBusy 26 = .ok (.iinc 1 (-1), 3) := by decide +kernel
theorem dX0_greatestBusy_29 : decode cX0_greatestBusy 29 = .ok (.goto (-17), 3) := by decide +kernel
theorem dX0_greatestBusy_32 : decode cX0_greatestBusy 32 = .ok (.iconst (-1), 1) := by decide +kernel
theorem dX0_greatestBusy_33 : decode cX0_greatestBusy 33 = .ok (.ireturn, 1) := by decide +kernel
theorem dX0_busyByNumber_0 : decode cX0_busyByNumber 0 = .ok (.aload_n 0, 1) := by decide +kernel
theorem dX0_busyByNumber_1 : decode cX0_busyByNumber 1 = .ok (.invokevirtual 104, 3) := by decide +kernel
theorem dX0_busyByNumber_4 : decode cX0_busyByNumber 4 = .ok (.istore_n 2, 1) := by decide +kernel
theorem dX0_busyByNumber_5 : decode cX0_busyByNumber 5 = .ok (.iload_n 2, 1) := by decide +kernel
theorem dX0_busyByNumber_6 : decode cX0_busyByNumber 6 = .ok (.ifCond .le 9, 3) := by decide +kernel
theorem dX0_busyByNumber_9 : decode cX0_busyByNumber 9 = .ok (.iload_n 1, 1) := by decide +kernel
theorem dX0_busyByNumber_10 : decode cX0_busyByNumber 10 = .ok (.iload_n 2, 1) := by decide +kernel
theorem dX0_busyByNumber_11 : decode cX0_busyByNumber 11 = .ok (.irem, 1) := by decide +kernel
theorem dX0_busyByNumber_12 : decode cX0_busyByNumber 12 = .ok (.goto 4, 3) := by decide +kernel
theorem dX0_busyByNumber_15 : decode cX0_busyByNumber 15 = .ok (.iconst 0, 1) := by decide +kernel
theorem dX0_busyByNumber_16 : decode cX0_busyByNumber 16 = .ok (.istore_n 3, 1) := by decide +kernel
theorem dX0_busyByNumber_17 : decode cX0_busyByNumber 17 = .ok (.iconst 0, 1) := by decide +kernel
theorem dX0_busyByNumber_18 : decode cX0_busyByNumber 18 = .ok (.istore 4, 2) := by decide +kernel
theorem dX0_busyByNumber_20 : decode cX0_busyByNumber 20 = .ok (.iload 4, 2) := by decide +kernel
theorem dX0_busyByNumber_22 : decode cX0_busyByNumber 22 = .ok (.iconst 2, 1) := by decide +kernel
theorem dX0_busyByNumber_23 : decode cX0_busyByNumber 23 = .ok (.aload_n 0, 1) := by decide +kernel
theorem dX0_busyByNumber_24 : decode cX0_busyByNumber 24 = .ok (.getfield 34, 3) := by decide +kernel
theorem dX0_busyByNumber_27 : decode cX0_busyByNumber 27 = .ok (.getfield 64, 3) := by decide +kernel
theorem dX0_busyByNumber_30 : decode cX0_busyByNumber 30 = .ok (.imul, 1) := by decide +kernel
theorem dX0_busyByNumber_31 : decode cX0_busyByNumber 31 = .ok (.if_icmp .ge 28, 3) := by decide +kernel
theorem dX0_busyByNumber_34 : decode cX0_busyByNumber 34 = .ok (.aload_n 0, 1) := by decide +kernel
theorem dX0_busyByNumber_35 : decode cX0_busyByNumber 35 = .ok (.iload 4, 2) := by decide +kernel
theorem dX0_busyByNumber_37 : decode cX0_busyByNumber 37 = .ok (.invokevirtual 77, 3) := by decide +kernel
theorem dX0_busyByNumber_40 : decode cX0_busyByNumber 40 = .ok (.ifCond .eq 13, 3) := by decide +kernel
theorem dX0_busyByNumber_43 : decode cX0_busyByNumber 43 = .ok (.iload_n 3, 1) := by decide +kernel
theorem dX0_busyByNumber_44 : decode cX0_busyByNumber 44 = .ok (.ifCond .ne 6, 3) := by decide +kernel
theorem dX0_busyByNumber_47 : decode cX0_busyByNumber 47 = .ok (.iload 4, 2) := by decide +kernel
theorem dX0_busyByNumber_49 : decode cX0_busyByNumber 49 = .ok (.ireturn, 1) := by decide +kernel
theorem dX0_busyByNumber_50 : decode cX0_busyByNumber 50 = .ok (.iinc 3 (-1), 3) := by decide +kernel
theorem dX0_busyByNumber_53 : decode cX0_busyByNumber 53 = .ok (.iinc 4 1, 3) := by decide +kernel
theorem dX0_busyByNumber_56 : decode cX0_busyByNumber 56 = .ok (.goto (-36), 3) := by decide +kernel
theorem dX0_busyByNumber_59 : decode cX0_busyByNumber 59 = .ok (.iconst (-1), 1) := by decide +kernel
theorem dX0_busyByNumber_60 : decode cX0_busyByNumber 60 = .ok (.ireturn, 1) := by decide +kernel
theorem dX0_rouse_0 : decode cX0_rouse 0 = .ok (.aload_n 0, 1) := by decide +kernel
theorem dX0_rouse_1 : decode cX0_rouse 1 = .ok (.iload_n 1, 1) := by decide +kernel
theorem dX0_rouse_2 : decode cX0_rouse 2 = .ok (.iconst 0, 1) := by decide +kernel
theorem dX0_rouse_3 : decode cX0_rouse 3 = .ok (.iconst 1, 1) := by decide +kernel
theorem dX0_rouse_4 : decode cX0_rouse 4 = .ok (.invokevirtual 44, 3) := by decide +kernel
theorem dX0_rouse_7 : decode cX0_rouse 7 = .ok (.aload_n 0, 1) := by decide +kernel
theorem dX0_rouse_8 : decode cX0_rouse 8 = .ok (.getfield 9, 3) := by decide +kernel
theorem dX0_rouse_11 : decode cX0_rouse 11 = .ok (.tableswitch 95 1 3 #[25, 42, 57], 25) := by decide +kernel
theorem dX0_rouse_36 : decode cX0_rouse 36 = .ok (.aload_n 0, 1) := by decide +kernel
theorem dX0_rouse_37 : decode cX0_rouse 37 = .ok (.iload_n 1, 1) := by decide +kernel
theorem dX0_rouse_38 : decode cX0_rouse 38 = .ok (.iconst 1, 1) := by decide +kernel
theorem dX0_rouse_39 : decode cX0_rouse 39 = .ok (.aload_n 0, 1) := by decide +kernel
theorem dX0_rouse_40 : decode cX0_rouse 40 = .ok (.getfield 34, 3) := by decide +kernel
theorem dX0_rouse_43 : decode cX0_rouse 43 = .ok (.iload_n 1, 1) := by decide +kernel
theorem dX0_rouse_44 : decode cX0_rouse 44 = .ok (.invokevirtual 107, 3) := by decide +kernel
theorem dX0_rouse_47 : decode cX0_rouse 47 = .ok (.invokevirtual 110, 3) := by decide +kernel
theorem dX0_rouse_50 : decode cX0_rouse 50 = .ok (.goto 68, 3) := by decide +kernel
theorem dX0_rouse_53 : decode cX0_rouse 53 = .ok (.aload_n 0, 1) := by decide +kernel
theorem dX0_rouse_54 : decode cX0_rouse 54 = .ok (.iload_n 1, 1) := by decide +kernel
theorem dX0_rouse_55 : decode cX0_rouse 55 = .ok (.iconst 3, 1) := by decide +kernel
theorem dX0_rouse_56 : decode cX0_rouse 56 = .ok (.iconst 0, 1) := by decide +kernel
theorem dX0_rouse_57 : decode cX0_rouse 57 = .ok (.invokevirtual 44, 3) := by decide +kernel
theorem dX0_rouse_60 : decode cX0_rouse 60 = .ok (.aload_n 0, 1) := by decide +kernel
theorem dX0_rouse_61 : decode cX0_rouse 61 = .ok (.iload_n 1, 1) := by decide +kernel
theorem dX0_rouse_62 : decode cX0_rouse 62 = .ok (.invokevirtual 113, 3) := by decide +kernel
theorem dX0_rouse_65 : decode cX0_rouse 65 = .ok (.goto 53, 3) := by decide +kernel
theorem dX0_rouse_68 : decode cX0_rouse 68 = .ok (.aload_n 0, 1) := by decide +kernel
theorem dX0_rouse_69 : decode cX0_rouse 69 = .ok (.iload_n 1, 1) := by decide +kernel
theorem dX0_rouse_70 : decode cX0_rouse 70 = .ok (.iconst 3, 1) := by decide +kernel
theorem dX0_rouse_71 : decode cX0_rouse 71 = .ok (.iconst 0, 1) := by decide +kernel
theorem dX0_rouse_72 : decode cX0_rouse 72 = .ok (.invokevirtual 44, 3) := by decide +kernel
theorem dX0_rouse_75 : decode cX0_rouse 75 = .ok (.aload_n 0, 1) := by decide +kernel
theorem dX0_rouse_76 : decode cX0_rouse 76 = .ok (.iload_n 1, 1) := by decide +kernel
theorem dX0_rouse_77 : decode cX0_rouse 77 = .ok (.iconst 2, 1) := by decide +kernel
theorem dX0_rouse_78 : decode cX0_rouse 78 = .ok (.aload_n 0, 1) := by decide +kernel
theorem dX0_rouse_79 : decode cX0_rouse 79 = .ok (.getfield 34, 3) := by decide +kernel
theorem dX0_rouse_82 : decode cX0_rouse 82 = .ok (.iload_n 1, 1) := by decide +kernel
theorem dX0_rouse_83 : decode cX0_rouse 83 = .ok (.invokevirtual 107, 3) := by decide +kernel
theorem dX0_rouse_86 : decode cX0_rouse 86 = .ok (.invokevirtual 44, 3) := by decide +kernel
theorem dX0_rouse_89 : decode cX0_rouse 89 = .ok (.aload_n 0, 1) := by decide +kernel
theorem dX0_rouse_90 : decode cX0_rouse 90 = .ok (.iload_n 1, 1) := by decide +kernel
theorem dX0_rouse_91 : decode cX0_rouse 91 = .ok (.iconst 4, 1) := by decide +kernel
theorem dX0_rouse_92 : decode cX0_rouse 92 = .ok (.aload_n 0, 1) := by decide +kernel
theorem dX0_rouse_93 : decode cX0_rouse 93 = .ok (.getfield 34, 3) := by decide +kernel
theorem dX0_rouse_96 : decode cX0_rouse 96 = .ok (.iload_n 1, 1) := by decide +kernel
theorem dX0_rouse_97 : decode cX0_rouse 97 = .ok (.invokevirtual 107, 3) := by decide +kernel
theorem dX0_rouse_100 : decode cX0_rouse 100 = .ok (.invokevirtual 110, 3) := by decide +kernel
theorem dX0_rouse_103 : decode cX0_rouse 103 = .ok (.goto 15, 3) := by decide +kernel
theorem dX0_rouse_106 : decode cX0_rouse 106 = .ok (.aload_n 0, 1) := by decide +kernel
theorem dX0_rouse_107 : decode cX0_rouse 107 = .ok (.iload_n 1, 1) := by decide +kernel
theorem dX0_rouse_108 : decode cX0_rouse 108 = .ok (.iconst 3, 1) := by decide +kernel
theorem dX0_rouse_109 : decode cX0_rouse 109 = .ok (.iconst 1, 1) := by decide +kernel
theorem dX0_rouse_110 : decode cX0_rouse 110 = .ok (.invokevirtual 44, 3) := by decide +kernel
theorem dX0_rouse_113 : decode cX0_rouse 113 = .ok (.aload_n 0, 1) := by decide +kernel
theorem dX0_rouse_114 : decode cX0_rouse 114 = .ok (.iload_n 1, 1) := by decide +kernel
theorem dX0_rouse_115 : decode cX0_rouse 115 = .ok (.invokevirtual 117, 3) := by decide +kernel
theorem dX0_rouse_118 : decode cX0_rouse 118 = .ok (.return_, 1) := by decide +kernel
theorem dX0_deliverFrom_0 : decode cX0_deliverFrom 0 = .ok (.aload_n 0, 1) := by decide +kernel
theorem dX0_deliverFrom_1 : decode cX0_deliverFrom 1 = .ok (.iload_n 1, 1) := by decide +kernel
theorem dX0_deliverFrom_2 : decode cX0_deliverFrom 2 = .ok (.iconst 0, 1) := by decide +kernel
theorem dX0_deliverFrom_3 : decode cX0_deliverFrom 3 = .ok (.invokevirtual 74, 3) := by decide +kernel
theorem dX0_deliverFrom_6 : decode cX0_deliverFrom 6 = .ok (.istore_n 2, 1) := by decide +kernel
theorem dX0_deliverFrom_7 : decode cX0_deliverFrom 7 = .ok (.iload_n 2, 1) := by decide +kernel
theorem dX0_deliverFrom_8 : decode cX0_deliverFrom 8 = .ok (.iconst (-1), 1) := by decide +kernel
theorem dX0_deliverFrom_9 : decode cX0_deliverFrom 9 = .ok (.if_icmp .ne 5, 3) := by decide +kernel
theorem dX0_deliverFrom_12 : decode cX0_deliverFrom 12 = .ok (.iconst (-1), 1) := by decide +kernel
theorem dX0_deliverFrom_13 : decode cX0_deliverFrom 13 = .ok (.ireturn, 1) := by decide +kernel
theorem dX0_deliverFrom_14 : decode cX0_deliverFrom 14 = .ok (.aload_n 0, 1) := by decide +kernel
theorem dX0_deliverFrom_15 : decode cX0_deliverFrom 15 = .ok (.iload_n 2, 1) := by decide +kernel
theorem dX0_deliverFrom_16 : decode cX0_deliverFrom 16 = .ok (.invokevirtual 120, 3) := by decide +kernel
theorem dX0_deliverFrom_19 : decode cX0_deliverFrom 19 = .ok (.aload_n 0, 1) := by decide +kernel
theorem dX0_deliverFrom_20 : decode cX0_deliverFrom 20 = .ok (.getfield 34, 3) := by decide +kernel
theorem dX0_deliverFrom_23 : decode cX0_deliverFrom 23 = .ok (.iload_n 1, 1) := by decide +kernel
theorem dX0_deliverFrom_24 : decode cX0_deliverFrom 24 = .ok (.invokevirtual 123, 3) := by decide +kernel
theorem dX0_deliverFrom_27 : decode cX0_deliverFrom 27 = .ok (.istore_n 3, 1) := by decide +kernel
theorem dX0_deliverFrom_28 : decode cX0_deliverFrom 28 = .ok (.aload_n 0, 1) := by decide +kernel
theorem dX0_deliverFrom_29 : decode cX0_deliverFrom 29 = .ok (.iload_n 3, 1) := by decide +kernel
theorem dX0_deliverFrom_30 : decode cX0_deliverFrom 30 = .ok (.iconst 0, 1) := by decide +kernel
theorem dX0_deliverFrom_31 : decode cX0_deliverFrom 31 = .ok (.invokevirtual 67, 3) := by decide +kernel
theorem dX0_deliverFrom_34 : decode cX0_deliverFrom 34 = .ok (.ifCond .ne 10, 3) := by decide +kernel
theorem dX0_deliverFrom_37 : decode cX0_deliverFrom 37 = .ok (.aload_n 0, 1) := by decide +kernel
theorem dX0_deliverFrom_38 : decode cX0_deliverFrom 38 = .ok (.iload_n 3, 1) := by decide +kernel
theorem dX0_deliverFrom_39 : decode cX0_deliverFrom 39 = .ok (.iconst 0, 1) := by decide +kernel
theorem dX0_deliverFrom_40 : decode cX0_deliverFrom 40 = .ok (.iconst 2, 1) := by decide +kernel
theorem dX0_deliverFrom_41 : decode cX0_deliverFrom 41 = .ok (.invokevirtual 44, 3) := by decide +kernel
theorem dX0_deliverFrom_44 : decode cX0_deliverFrom 44 = .ok (.aload_n 0, 1) := by decide +kernel
theorem dX0_deliverFrom_45 : decode cX0_deliverFrom 45 = .ok (.iload_n 3, 1) := by decide +kernel
theorem dX0_deliverFrom_46 : decode cX0_deliverFrom 46 = .ok (.iconst 0, 1) := by decide +kernel
theorem dX0_deliverFrom_47 : decode cX0_deliverFrom 47 = .ok (.invokevirtual 67, 3) := by decide +kernel
theorem dX0_deliverFrom_50 : decode cX0_deliverFrom 50 = .ok (.iconst 3, 1) := by decide +kernel
theorem dX0_deliverFrom_51 : decode cX0_deliverFrom 51 = .ok (.if_icmp .eq 57, 3) := by decide +kernel
theorem dX0_deliverFrom_54 : decode cX0_deliverFrom 54 = .ok (.aload_n 0, 1) := by decide +kernel
theorem dX0_deliverFrom_55 : decode cX0_deliverFrom 55 = .ok (.iload_n 3, 1) := by decide +kernel
theorem dX0_deliverFrom_56 : decode cX0_deliverFrom 56 = .ok (.invokevirtual 126, 3) := by decide +kernel
theorem dX0_deliverFrom_59 : decode cX0_deliverFrom 59 = .ok (.ifCond .eq 49, 3) := by decide +kernel
theorem dX0_deliverFrom_62 : decode cX0_deliverFrom 62 = .ok (.iload_n 3, 1) := by decide +kernel
theorem dX0_deliverFrom_63 : decode cX0_deliverFrom 63 = .ok (.iload_n 1, 1) := by decide +kernel
theorem dX0_deliverFrom_64 : decode cX0_deliverFrom 64 = .ok (.invokestatic 129, 3) := by decide +kernel
theorem dX0_deliverFrom_67 : decode cX0_deliverFrom 67 = .ok (.invokestatic 132, 3) := by decide +kernel
theorem dX0_deliverFrom_70 : decode cX0_deliverFrom 70 = .ok (.istore 4, 2) := by decide +kernel
theorem dX0_deliverFrom_72 : decode cX0_deliverFrom 72 = .ok (.aload_n 0, 1) := by decide +kernel
theorem dX0_deliverFrom_73 : decode cX0_deliverFrom 73 = .ok (.iload 4, 2) := by decide +kernel
theorem dX0_deliverFrom_75 : decode cX0_deliverFrom 75 = .ok (.aload_n 0, 1) := by decide +kernel
theorem dX0_deliverFrom_76 : decode cX0_deliverFrom 76 = .ok (.getfield 31, 3) := by decide +kernel
theorem dX0_deliverFrom_79 : decode cX0_deliverFrom 79 = .ok (.iconst 1, 1) := by decide +kernel
theorem dX0_deliverFrom_80 : decode cX0_deliverFrom 80 = .ok (.iaload, 1) := by decide +kernel
theorem dX0_deliverFrom_81 : decode cX0_deliverFrom 81 = .ok (.aload_n 0, 1) := by decide +kernel
theorem dX0_deliverFrom_82 : decode cX0_deliverFrom 82 = .ok (.getfield 31, 3) := by decide +kernel
theorem dX0_deliverFrom_85 : decode cX0_deliverFrom 85 = .ok (.iconst 2, 1) := by decide +kernel
theorem dX0_deliverFrom_86 : decode cX0_deliverFrom 86 = .ok (.iaload, 1) := by decide +kernel
theorem dX0_deliverFrom_87 : decode cX0_deliverFrom 87 = .ok (.aload_n 0, 1) := by decide +kernel
theorem dX0_deliverFrom_88 : decode cX0_deliverFrom 88 = .ok (.getfield 31, 3) := by decide +kernel
theorem dX0_deliverFrom_91 : decode cX0_deliverFrom 91 = .ok (.iconst 3, 1) := by decide +kernel
theorem dX0_deliverFrom_92 : decode cX0_deliverFrom 92 = .ok (.iaload, 1) := by decide +kernel
theorem dX0_deliverFrom_93 : decode cX0_deliverFrom 93 = .ok (.aload_n 0, 1) := by decide +kernel
theorem dX0_deliverFrom_94 : decode cX0_deliverFrom 94 = .ok (.getfield 31, 3) := by decide +kernel
theorem dX0_deliverFrom_97 : decode cX0_deliverFrom 97 = .ok (.iconst 4, 1) := by decide +kernel
theorem dX0_deliverFrom_98 : decode cX0_deliverFrom 98 = .ok (.iaload, 1) := by decide +kernel
theorem dX0_deliverFrom_99 : decode cX0_deliverFrom 99 = .ok (.aload_n 0, 1) := by decide +kernel
theorem dX0_deliverFrom_100 : decode cX0_deliverFrom 100 = .ok (.getfield 31, 3) := by decide +kernel
theorem dX0_deliverFrom_103 : decode cX0_deliverFrom 103 = .ok (.iconst 5, 1) := by decide +kernel
theorem dX0_deliverFrom_104 : decode cX0_deliverFrom 104 = .ok (.iaload, 1) := by decide +kernel
theorem dX0_deliverFrom_105 : decode cX0_deliverFrom 105 = .ok (.invokevirtual 135, 3) := by decide +kernel
theorem dX0_deliverFrom_108 : decode cX0_deliverFrom 108 = .ok (.aload_n 0, 1) := by decide +kernel
theorem dX0_deliverFrom_109 : decode cX0_deliverFrom 109 = .ok (.getfield 31, 3) := by decide +kernel
theorem dX0_deliverFrom_112 : decode cX0_deliverFrom 112 = .ok (.iconst 1, 1) := by decide +kernel
theorem dX0_deliverFrom_113 : decode cX0_deliverFrom 113 = .ok (.iaload, 1) := by decide +kernel
theorem dX0_deliverFrom_114 : decode cX0_deliverFrom 114 = .ok (.ireturn, 1) := by decide +kernel
theorem dX0_takeInHand_0 : decode cX0_takeInHand 0 = .ok (.iload_n 1, 1) := by decide +kernel
theorem dX0_takeInHand_1 : decode cX0_takeInHand 1 = .ok (.ifCond .lt 20, 3) := by decide +kernel
theorem dX0_takeInHand_4 : decode cX0_takeInHand 4 = .ok (.iload_n 1, 1) := by decide +kernel
theorem dX0_takeInHand_5 : decode cX0_takeInHand 5 = .ok (.aload_n 0, 1) := by decide +kernel
theorem dX0_takeInHand_6 : decode cX0_takeInHand 6 = .ok (.getfield 25, 3) := by decide +kernel
theorem dX0_takeInHand_9 : decode cX0_takeInHand 9 = .ok (.if_icmp .ge 12, 3) := by decide +kernel
theorem dX0_takeInHand_12 : decode cX0_takeInHand 12 = .ok (.aload_n 0, 1) := by decide +kernel
theorem dX0_takeInHand_13 : decode cX0_takeInHand 13 = .ok (.getfield 25, 3) := by decide +kernel
theorem dX0_takeInHand_16 : decode cX0_takeInHand 16 = .ok (.bipush 12, 2) := by decide +kernel
theorem dX0_takeInHand_18 : decode cX0_takeInHand 18 = .ok (.if_icmp .le 4, 3) := by decide +kernel
theorem dX0_takeInHand_21 : decode cX0_takeInHand 21 = .ok (.return_, 1) := by decide +kernel
theorem dX0_takeInHand_22 : decode cX0_takeInHand 22 = .ok (.iload_n 1, 1) := by decide +kernel
theorem dX0_takeInHand_23 : decode cX0_takeInHand 23 = .ok (.bipush 6, 2) := by decide +kernel
theorem dX0_takeInHand_25 : decode cX0_takeInHand 25 = .ok (.imul, 1) := by decide +kernel
theorem dX0_takeInHand_26 : decode cX0_takeInHand 26 = .ok (.istore_n 2, 1) := by decide +kernel
theorem dX0_takeInHand_27 : decode cX0_takeInHand 27 = .ok (.aload_n 0, 1) := by decide +kernel
theorem dX0_takeInHand_28 : decode cX0_takeInHand 28 = .ok (.getfield 22, 3) := by decide +kernel
theorem dX0_takeInHand_31 : decode cX0_takeInHand 31 = .ok (.iload_n 2, 1) := by decide +kernel
theorem dX0_takeInHand_32 : decode cX0_takeInHand 32 = .ok (.aload_n 0, 1) := by decide +kernel
theorem dX0_takeInHand_33 : decode cX0_takeInHand 33 = .ok (.getfield 31, 3) := by decide +kernel
theorem dX0_takeInHand_36 : decode cX0_takeInHand 36 = .ok (.iconst 0, 1) := by decide +kernel
theorem dX0_takeInHand_37 : decode cX0_takeInHand 37 = .ok (.bipush 6, 2) := by decide +kernel
theorem dX0_takeInHand_39 : decode cX0_takeInHand 39 = .ok (.invokestatic 38, 3) := by decide +kernel
theorem dX0_takeInHand_42 : decode cX0_takeInHand 42 = .ok (.aload_n 0, 1) := by decide +kernel
theorem dX0_takeInHand_43 : decode cX0_takeInHand 43 = .ok (.dup, 1) := by decide +kernel
theorem dX0_takeInHand_44 : decode cX0_takeInHand 44 = .ok (.getfield 25, 3) := by decide +kernel
theorem dX0_takeInHand_47 : decode cX0_takeInHand 47 = .ok (.iconst 1, 1) := by decide +kernel
theorem dX0_takeInHand_48 : decode cX0_takeInHand 48 = .ok (.isub, 1) := by decide +kernel
theorem dX0_takeInHand_49 : decode cX0_takeInHand 49 = .ok (.putfield 25, 3) := by decide +kernel
theorem dX0_takeInHand_52 : decode cX0_takeInHand 52 = .ok (.aload_n 0, 1) := by decide +kernel
theorem dX0_takeInHand_53 : decode cX0_takeInHand 53 = .ok (.getfield 22, 3) := by decide +kernel
theorem dX0_takeInHand_56 : decode cX0_takeInHand 56 = .ok (.iload_n 2, 1) := by decide +kernel
theorem dX0_takeInHand_57 : decode cX0_takeInHand 57 = .ok (.bipush 6, 2) := by decide +kernel
theorem dX0_takeInHand_59 : decode cX0_takeInHand 59 = .ok (.iadd, 1) := by decide +kernel
theorem dX0_takeInHand_60 : decode cX0_takeInHand 60 = .ok (.aload_n 0, 1) := by decide +kernel
theorem dX0_takeInHand_61 : decode cX0_takeInHand 61 = .ok (.getfield 22, 3) := by decide +kernel
theorem dX0_takeInHand_64 : decode cX0_takeInHand 64 = .ok (.iload_n 2, 1) := by decide +kernel
theorem dX0_takeInHand_65 : decode cX0_takeInHand 65 = .ok (.aload_n 0, 1) := by decide +kernel
theorem dX0_takeInHand_66 : decode cX0_takeInHand 66 = .ok (.getfield 25, 3) := by decide +kernel
theorem dX0_takeInHand_69 : decode cX0_takeInHand 69 = .ok (.iload_n 1, 1) := by decide +kernel
theorem dX0_takeInHand_70 : decode cX0_takeInHand 70 = .ok (.isub, 1) := by decide +kernel
theorem dX0_takeInHand_71 : decode cX0_takeInHand 71 = .ok (.bipush 6, 2) := by decide +kernel
theorem dX0_takeInHand_73 : decode cX0_takeInHand 73 = .ok (.imul, 1) := by decide +kernel
theorem dX0_takeInHand_74 : decode cX0_takeInHand 74 = .ok (.invokestatic 38, 3) := by decide +kernel
theorem dX0_takeInHand_77 : decode cX0_takeInHand 77 = .ok (.return_, 1) := by decide +kernel
theorem dX0_goesOn_0 : decode cX0_goesOn 0 = .ok (.aload_n 0, 1) := by decide +kernel
theorem dX0_goesOn_1 : decode cX0_goesOn 1 = .ok (.getfield 31, 3) := by decide +kernel
theorem dX0_goesOn_4 : decode cX0_goesOn 4 = .ok (.iconst 1, 1) := by decide +kernel
theorem dX0_goesOn_5 : decode cX0_goesOn 5 = .ok (.iaload, 1) := by decide +kernel
theorem dX0_goesOn_6 : decode cX0_goesOn 6 = .ok (.tableswitch 84 1 6 #[38, 44, 66, 72, 72, 78], 38) := by decide +kernel
theorem dX0_goesOn_44 : decode cX0_goesOn 44 = .ok (.aload_n 0, 1) := by decide +kernel
theorem dX0_goesOn_45 : decode cX0_goesOn 45 = .ok (.iload_n 1, 1) := by decide +kernel
theorem dX0_goesOn_46 : decode cX0_goesOn 46 = .ok (.invokevirtual 139, 3) := by decide +kernel
theorem dX0_goesOn_49 : decode cX0_goesOn 49 = .ok (.ireturn, 1) := by decide +kernel
theorem dX0_goesOn_50 : decode cX0_goesOn 50 = .ok (.aload_n 0, 1) := by decide +kernel
theorem dX0_goesOn_51 : decode cX0_goesOn 51 = .ok (.iload_n 1, 1) := by decide +kernel
theorem dX0_goesOn_52 : decode cX0_goesOn 52 = .ok (.invokevirtual 139, 3) := by decide +kernel
theorem dX0_goesOn_55 : decode cX0_goesOn 55 = .ok (.ifCond .eq 15, 3) := by decide +kernel
theorem dX0_goesOn_58 : decode cX0_goesOn 58 = .ok (.aload_n 0, 1) := by decide +kernel
theorem dX0_goesOn_59 : decode cX0_goesOn 59 = .ok (.iload_n 1, 1) := by decide +kernel
theorem dX0_goesOn_60 : decode cX0_goesOn 60 = .ok (.invokevirtual 142, 3) := by decide +kernel
theorem dX0_goesOn_63 : decode cX0_goesOn 63 = .ok (.ifCond .eq 7, 3) := by decide +kernel
theorem dX0_goesOn_66 : decode cX0_goesOn 66 = .ok (.iconst 1, 1) := by decide +kernel
theorem dX0_goesOn_67 : decode cX0_goesOn 67 = .ok (.goto 4, 3) := by decide +kernel
theorem dX0_goesOn_70 : decode cX0_goesOn 70 = .ok (.iconst 0, 1) := by decide +kernel
theorem dX0_goesOn_71 : decode cX0_goesOn 71 = .ok (.ireturn, 1) := by decide +kernel
theorem dX0_goesOn_72 : decode cX0_goesOn 72 = .ok (.aload_n 0, 1) := by decide +kernel
theorem dX0_goesOn_73 : decode cX0_goesOn 73 = .ok (.iload_n 1, 1) := by decide +kernel
theorem dX0_goesOn_74 : decode cX0_goesOn 74 = .ok (.invokevirtual 145, 3) := by decide +kernel
theorem dX0_goesOn_77 : decode cX0_goesOn 77 = .ok (.ireturn, 1) := by decide +kernel
theorem dX0_goesOn_78 : decode cX0_goesOn 78 = .ok (.aload_n 0, 1) := by decide +kernel
theorem dX0_goesOn_79 : decode cX0_goesOn 79 = .ok (.iload_n 1, 1) := by decide +kernel
theorem dX0_goesOn_80 : decode cX0_goesOn 80 = .ok (.invokevirtual 148, 3) := by decide +kernel
theorem dX0_goesOn_83 : decode cX0_goesOn 83 = .ok (.ireturn, 1) := by decide +kernel
theorem dX0_goesOn_84 : decode cX0_goesOn 84 = .ok (.aload_n 0, 1) := by decide +kernel
theorem dX0_goesOn_85 : decode cX0_goesOn 85 = .ok (.iload_n 1, 1) := by decide +kernel
theorem dX0_goesOn_86 : decode cX0_goesOn 86 = .ok (.invokevirtual 151, 3) := by decide +kernel
theorem dX0_goesOn_89 : decode cX0_goesOn 89 = .ok (.ireturn, 1) := by decide +kernel
theorem dX0_goesOn_90 : decode cX0_goesOn 90 = .ok (.aload_n 0, 1) := by decide +kernel
theorem dX0_goesOn_91 : decode cX0_goesOn 91 = .ok (.iload_n 1, 1) := by decide +kernel
theorem dX0_goesOn_92 : decode cX0_goesOn 92 = .ok (.invokevirtual 154, 3) := by decide +kernel
theorem dX0_goesOn_95 : decode cX0_goesOn 95 = .ok (.ireturn, 1) := by decide +kernel
theorem dX0_crownGoesOn_0 : decode cX0_crownGoesOn 0 = .ok (.aload_n 0, 1) := by decide +kernel
theorem dX0_crownGoesOn_1 : decode cX0_crownGoesOn 1 = .ok (.iload_n 1, 1) := by decide +kernel
theorem dX0_crownGoesOn_2 : decode cX0_crownGoesOn 2 = .ok (.iconst 0, 1) := by decide +kernel
theorem dX0_crownGoesOn_3 : decode cX0_crownGoesOn 3 = .ok (.iconst 4, 1) := by decide +kernel
theorem dX0_crownGoesOn_4 : decode cX0_crownGoesOn 4 = .ok (.invokevirtual 44, 3) := by decide +kernel
theorem dX0_crownGoesOn_7 : decode cX0_crownGoesOn 7 = .ok (.aload_n 0, 1) := by decide +kernel
theorem dX0_crownGoesOn_8 : decode cX0_crownGoesOn 8 = .ok (.iload_n 1, 1) := by decide +kernel
theorem dX0_crownGoesOn_9 : decode cX0_crownGoesOn 9 = .ok (.iconst 4, 1) := by decide +kernel
theorem dX0_crownGoesOn_10 : decode cX0_crownGoesOn 10 = .ok (.aload_n 0, 1) := by decide +kernel
theorem dX0_crownGoesOn_11 : decode cX0_crownGoesOn 11 = .ok (.getfield 31, 3) := by decide +kernel
theorem dX0_crownGoesOn_14 : decode cX0_crownGoesOn 14 = .ok (.iconst 2, 1) := by decide +kernel
theorem dX0_crownGoesOn_15 : decode cX0_crownGoesOn 15 = .ok (.iaload, 1) := by decide +kernel
theorem dX0_crownGoesOn_16 : decode cX0_crownGoesOn 16 = .ok (.invokevirtual 44, 3) := by decide +kernel
theorem dX0_crownGoesOn_19 : decode cX0_crownGoesOn 19 = .ok (.aload_n 0, 1) := by decide +kernel
theorem dX0_crownGoesOn_20 : decode cX0_crownGoesOn 20 = .ok (.iload_n 1, 1) := by decide +kernel
theorem dX0_crownGoesOn_21 : decode cX0_crownGoesOn 21 = .ok (.iconst 1, 1) := by decide +kernel
theorem dX0_crownGoesOn_22 : decode cX0_crownGoesOn 22 = .ok (.aload_n 0, 1) := by decide +kernel
theorem dX0_crownGoesOn_23 : decode cX0_crownGoesOn 23 = .ok (.getfield 31, 3) := by decide +kernel
theorem dX0_crownGoesOn_26 : decode cX0_crownGoesOn 26 = .ok (.iconst 0, 1) := by decide +kernel
theorem dX0_crownGoesOn_27 : decode cX0_crownGoesOn 27 = .ok (.iaload, 1) := by decide +kernel
theorem dX0_crownGoesOn_28 : decode cX0_crownGoesOn 28 = .ok (.invokestatic 129, 3) := by decide +kernel
theorem dX0_crownGoesOn_31 : decode cX0_crownGoesOn 31 = .ok (.invokevirtual 44, 3) := by decide +kernel
theorem dX0_crownGoesOn_34 : decode cX0_crownGoesOn 34 = .ok (.iconst 1, 1) := by decide +kernel
theorem dX0_crownGoesOn_35 : decode cX0_crownGoesOn 35 = .ok (.ireturn, 1) := by decide +kernel
theorem dX0_getsPast_0 : decode cX0_getsPast 0 = .ok (.aload_n 0, 1) := by decide +kernel
theorem dX0_getsPast_1 : decode cX0_getsPast 1 = .ok (.getfield 34, 3) := by decide +kernel
theorem dX0_getsPast_4 : decode cX0_getsPast 4 = .ok (.iload_n 1, 1) := by decide +kernel
theorem dX0_getsPast_5 : decode cX0_getsPast 5 = .ok (.invokevirtual 107, 3) := by decide +kernel
theorem dX0_getsPast_8 : decode cX0_getsPast 8 = .ok (.istore_n 2, 1) := by decide +kernel
theorem dX0_getsPast_9 : decode cX0_getsPast 9 = .ok (.aload_n 0, 1) := by decide +kernel
theorem dX0_getsPast_10 : decode cX0_getsPast 10 = .ok (.iload_n 1, 1) := by decide +kernel
theorem dX0_getsPast_11 : decode cX0_getsPast 11 = .ok (.invokevirtual 157, 3) := by decide +kernel
theorem dX0_getsPast_14 : decode cX0_getsPast 14 = .ok (.ifCond .ne 5, 3) := by decide +kernel
theorem dX0_getsPast_17 : decode cX0_getsPast 17 = .ok (.iconst 1, 1) := by decide +kernel
theorem dX0_getsPast_18 : decode cX0_getsPast 18 = .ok (.ireturn, 1) := by decide +kernel
theorem dX0_getsPast_19 : decode cX0_getsPast 19 = .ok (.aload_n 0, 1) := by decide +kernel
theorem dX0_getsPast_20 : decode cX0_getsPast 20 = .ok (.getfield 31, 3) := by decide +kernel
theorem dX0_getsPast_23 : decode cX0_getsPast 23 = .ok (.iconst 2, 1) := by decide +kernel
theorem dX0_getsPast_24 : decode cX0_getsPast 24 = .ok (.iaload, 1) := by decide +kernel
theorem dX0_getsPast_25 : decode cX0_getsPast 25 = .ok (.iload_n 2, 1) := by decide +kernel
theorem dX0_getsPast_26 : decode cX0_getsPast 26 = .ok (.if_icmp .le 12, 3) := by decide +kernel
theorem dX0_getsPast_29 : decode cX0_getsPast 29 = .ok (.aload_n 0, 1) := by decide +kernel
theorem dX0_getsPast_30 : decode cX0_getsPast 30 = .ok (.iload_n 1, 1) := by decide +kernel
theorem dX0_getsPast_31 : decode cX0_getsPast 31 = .ok (.iconst 0, 1) := by decide +kernel
theorem dX0_getsPast_32 : decode cX0_getsPast 32 = .ok (.iconst 2, 1) := by decide +kernel
theorem dX0_getsPast_33 : decode cX0_getsPast 33 = .ok (.invokevirtual 44, 3) := by decide +kernel
theorem dX0_getsPast_36 : decode cX0_getsPast 36 = .ok (.iconst 1, 1) := by decide +kernel
theorem dX0_getsPast_37 : decode cX0_getsPast 37 = .ok (.ireturn, 1) := by decide +kernel
theorem dX0_getsPast_38 : decode cX0_getsPast 38 = .ok (.aload_n 0, 1) := by decide +kernel
theorem dX0_getsPast_39 : decode cX0_getsPast 39 = .ok (.getfield 31, 3) := by decide +kernel
theorem dX0_getsPast_42 : decode cX0_getsPast 42 = .ok (.iconst 2, 1) := by decide +kernel
theorem dX0_getsPast_43 : decode cX0_getsPast 43 = .ok (.iaload, 1) := by decide +kernel
theorem dX0_getsPast_44 : decode cX0_getsPast 44 = .ok (.iload_n 2, 1) := by decide +kernel
theorem dX0_getsPast_45 : decode cX0_getsPast 45 = .ok (.if_icmp .ne 9, 3) := by decide +kernel
theorem dX0_getsPast_48 : decode cX0_getsPast 48 = .ok (.aload_n 0, 1) := by decide +kernel
theorem dX0_getsPast_49 : decode cX0_getsPast 49 = .ok (.iload_n 1, 1) := by decide +kernel
theorem dX0_getsPast_50 : decode cX0_getsPast 50 = .ok (.iload_n 2, 1) := by decide +kernel
theorem dX0_getsPast_51 : decode cX0_getsPast 51 = .ok (.invokevirtual 160, 3) := by decide +kernel
theorem dX0_getsPast_54 : decode cX0_getsPast 54 = .ok (.iconst 0, 1) := by decide +kernel
theorem dX0_getsPast_55 : decode cX0_getsPast 55 = .ok (.ireturn, 1) := by decide +kernel
theorem dX0_probeGoesOn_0 : decode cX0_probeGoesOn 0 = .ok (.aload_n 0, 1) := by decide +kernel
theorem dX0_probeGoesOn_1 : decode cX0_probeGoesOn 1 = .ok (.getfield 31, 3) := by decide +kernel
theorem dX0_probeGoesOn_4 : decode cX0_probeGoesOn 4 = .ok (.iconst 4, 1) := by decide +kernel
theorem dX0_probeGoesOn_5 : decode cX0_probeGoesOn 5 = .ok (.dup2, 1) := by decide +kernel
theorem dX0_probeGoesOn_6 : decode cX0_probeGoesOn 6 = .ok (.iaload, 1) := by decide +kernel
theorem dX0_probeGoesOn_7 : decode cX0_probeGoesOn 7 = .ok (.iconst 1, 1) := by decide +kernel
theorem dX0_probeGoesOn_8 : decode cX0_probeGoesOn 8 = .ok (.isub, 1) := by decide +kernel
theorem dX0_probeGoesOn_9 : decode cX0_probeGoesOn 9 = .ok (.iastore, 1) := by decide +kernel
theorem dX0_probeGoesOn_10 : decode cX0_probeGoesOn 10 = .ok (.aload_n 0, 1) := by decide +kernel
theorem dX0_probeGoesOn_11 : decode cX0_probeGoesOn 11 = .ok (.getfield 31, 3) := by decide +kernel
theorem dX0_probeGoesOn_14 : decode cX0_probeGoesOn 14 = .ok (.iconst 4, 1) := by decide +kernel
theorem dX0_probeGoesOn_15 : decode cX0_probeGoesOn 15 = .ok (.iaload, 1) := by decide +kernel
theorem dX0_probeGoesOn_16 : decode cX0_probeGoesOn 16 = .ok (.iconst 1, 1) := by decide +kernel
theorem dX0_probeGoesOn_17 : decode cX0_probeGoesOn 17 = .ok (.if_icmp .lt 5, 3) := by decide +kernel
theorem dX0_probeGoesOn_20 : decode cX0_probeGoesOn 20 = .ok (.iconst 1, 1) := by decide +kernel
theorem dX0_probeGoesOn_21 : decode cX0_probeGoesOn 21 = .ok (.ireturn, 1) := by decide +kernel
theorem dX0_probeGoesOn_22 : decode cX0_probeGoesOn 22 = .ok (.iload_n 1, 1) := by decide +kernel
theorem dX0_probeGoesOn_23 : decode cX0_probeGoesOn 23 = .ok (.iconst 1, 1) := by decide +kernel
theorem dX0_probeGoesOn_24 : decode cX0_probeGoesOn 24 = .ok (.aload_n 0, 1) := by decide +kernel
theorem dX0_probeGoesOn_25 : decode cX0_probeGoesOn 25 = .ok (.getfield 31, 3) := by decide +kernel
theorem dX0_probeGoesOn_28 : decode cX0_probeGoesOn 28 = .ok (.iconst 0, 1) := by decide +kernel
theorem dX0_probeGoesOn_29 : decode cX0_probeGoesOn 29 = .ok (.iaload, 1) := by decide +kernel
theorem dX0_probeGoesOn_30 : decode cX0_probeGoesOn 30 = .ok (.invokestatic 129, 3) := by decide +kernel
theorem dX0_probeGoesOn_33 : decode cX0_probeGoesOn 33 = .ok (.isub, 1) := by decide +kernel
theorem dX0_probeGoesOn_34 : decode cX0_probeGoesOn 34 = .ok (.invokestatic 132, 3) := by decide +kernel
theorem dX0_probeGoesOn_37 : decode cX0_probeGoesOn 37 = .ok (.istore_n 2, 1) := by decide +kernel
theorem dX0_probeGoesOn_38 : decode cX0_probeGoesOn 38 = .ok (.aload_n 0, 1) := by decide +kernel
theorem dX0_probeGoesOn_39 : decode cX0_probeGoesOn 39 = .ok (.iload_n 2, 1) := by decide +kernel
theorem dX0_probeGoesOn_40 : decode cX0_probeGoesOn 40 = .ok (.iconst 3, 1) := by decide +kernel
theorem dX0_probeGoesOn_41 : decode cX0_probeGoesOn 41 = .ok (.aload_n 0, 1) := by decide +kernel
theorem dX0_probeGoesOn_42 : decode cX0_probeGoesOn 42 = .ok (.getfield 31, 3) := by decide +kernel
theorem dX0_probeGoesOn_45 : decode cX0_probeGoesOn 45 = .ok (.iconst 2, 1) := by decide +kernel
theorem dX0_probeGoesOn_46 : decode cX0_probeGoesOn 46 = .ok (.iaload, 1) := by decide +kernel
theorem dX0_probeGoesOn_47 : decode cX0_probeGoesOn 47 = .ok (.aload_n 0, 1) := by decide +kernel
theorem dX0_probeGoesOn_48 : decode cX0_probeGoesOn 48 = .ok (.getfield 31, 3) := by decide +kernel
theorem dX0_probeGoesOn_51 : decode cX0_probeGoesOn 51 = .ok (.iconst 3, 1) := by decide +kernel
theorem dX0_probeGoesOn_52 : decode cX0_probeGoesOn 52 = .ok (.iaload, 1) := by decide +kernel
theorem dX0_probeGoesOn_53 : decode cX0_probeGoesOn 53 = .ok (.iconst (-1), 1) := by decide +kernel
theorem dX0_probeGoesOn_54 : decode cX0_probeGoesOn 54 = .ok (.iconst (-1), 1) := by decide +kernel
theorem dX0_probeGoesOn_55 : decode cX0_probeGoesOn 55 = .ok (.invokevirtual 135, 3) := by decide +kernel
theorem dX0_probeGoesOn_58 : decode cX0_probeGoesOn 58 = .ok (.iconst 0, 1) := by decide +kernel
theorem dX0_probeGoesOn_59 : decode cX0_probeGoesOn 59 = .ok (.ireturn, 1) := by decide +kernel
theorem dX0_replyGoesOn_0 : decode cX0_replyGoesOn 0 = .ok (.aload_n 0, 1) := by decide +kernel
theorem dX0_replyGoesOn_1 : decode cX0_replyGoesOn 1 = .ok (.getfield 31, 3) := by decide +kernel
theorem dX0_replyGoesOn_4 : decode cX0_replyGoesOn 4 = .ok (.iconst 2, 1) := by decide +kernel
theorem dX0_replyGoesOn_5 : decode cX0_replyGoesOn 5 = .ok (.iaload, 1) := by decide +kernel
theorem dX0_replyGoesOn_6 : decode cX0_replyGoesOn 6 = .ok (.aload_n 0, 1) := by decide +kernel
theorem dX0_replyGoesOn_7 : decode cX0_replyGoesOn 7 = .ok (.getfield 34, 3) := by decide +kernel
theorem dX0_replyGoesOn_10 : decode cX0_replyGoesOn 10 = .ok (.iload_n 1, 1) := by decide +kernel
theorem dX0_replyGoesOn_11 : decode cX0_replyGoesOn 11 = .ok (.invokevirtual 107, 3) := by decide +kernel
theorem dX0_replyGoesOn_14 : decode cX0_replyGoesOn 14 = .ok (.if_icmp .eq 5, 3) := by decide +kernel
theorem dX0_replyGoesOn_17 : decode cX0_replyGoesOn 17 = .ok (.iconst 1, 1) := by decide +kernel
theorem dX0_replyGoesOn_18 : decode cX0_replyGoesOn 18 = .ok (.ireturn, 1) := by decide +kernel
theorem dX0_replyGoesOn_19 : decode cX0_replyGoesOn 19 = .ok (.aload_n 0, 1) := by decide +kernel
theorem dX0_replyGoesOn_20 : decode cX0_replyGoesOn 20 = .ok (.iload_n 1, 1) := by decide +kernel
theorem dX0_replyGoesOn_21 : decode cX0_replyGoesOn 21 = .ok (.invokevirtual 157, 3) := by decide +kernel
theorem dX0_replyGoesOn_24 : decode cX0_replyGoesOn 24 = .ok (.ifCond .eq 46, 3) := by decide +kernel
theorem dX0_replyGoesOn_27 : decode cX0_replyGoesOn 27 = .ok (.aload_n 0, 1) := by decide +kernel
theorem dX0_replyGoesOn_28 : decode cX0_replyGoesOn 28 = .ok (.iload_n 1, 1) := by decide +kernel
theorem dX0_replyGoesOn_29 : decode cX0_replyGoesOn 29 = .ok (.iconst 5, 1) := by decide +kernel
theorem dX0_replyGoesOn_30 : decode cX0_replyGoesOn 30 = .ok (.aload_n 0, 1) := by decide +kernel
theorem dX0_replyGoesOn_31 : decode cX0_replyGoesOn 31 = .ok (.iload_n 1, 1) := by decide +kernel
theorem dX0_replyGoesOn_32 : decode cX0_replyGoesOn 32 = .ok (.iconst 5, 1) := by decide +kernel
theorem dX0_replyGoesOn_33 : decode cX0_replyGoesOn 33 = .ok (.invokevirtual 67, 3) := by decide +kernel
theorem dX0_replyGoesOn_36 : decode cX0_replyGoesOn 36 = .ok (.iconst 1, 1) := by decide +kernel
theorem dX0_replyGoesOn_37 : decode cX0_replyGoesOn 37 = .ok (.iadd, 1) := by decide +kernel
theorem dX0_replyGoesOn_38 : decode cX0_replyGoesOn 38 = .ok (.invokevirtual 44, 3) := by decide +kernel
theorem dX0_replyGoesOn_41 : decode cX0_replyGoesOn 41 = .ok (.aload_n 0, 1) := by decide +kernel
theorem dX0_replyGoesOn_42 : decode cX0_replyGoesOn 42 = .ok (.iload_n 1, 1) := by decide +kernel
theorem dX0_replyGoesOn_43 : decode cX0_replyGoesOn 43 = .ok (.iconst 5, 1) := by decide +kernel
theorem dX0_replyGoesOn_44 : decode cX0_replyGoesOn 44 = .ok (.invokevirtual 67, 3) := by decide +kernel
theorem dX0_replyGoesOn_47 : decode cX0_replyGoesOn 47 = .ok (.iconst 2, 1) := by decide +kernel
theorem dX0_replyGoesOn_48 : decode cX0_replyGoesOn 48 = .ok (.if_icmp .ne 22, 3) := by decide +kernel
theorem dX0_replyGoesOn_51 : decode cX0_replyGoesOn 51 = .ok (.aload_n 0, 1) := by decide +kernel
theorem dX0_replyGoesOn_52 : decode cX0_replyGoesOn 52 = .ok (.iload_n 1, 1) := by decide +kernel
theorem dX0_replyGoesOn_53 : decode cX0_replyGoesOn 53 = .ok (.iconst 3, 1) := by decide +kernel
theorem dX0_replyGoesOn_54 : decode cX0_replyGoesOn 54 = .ok (.aload_n 0, 1) := by decide +kernel
theorem dX0_replyGoesOn_55 : decode cX0_replyGoesOn 55 = .ok (.iload_n 1, 1) := by decide +kernel
theorem dX0_replyGoesOn_56 : decode cX0_replyGoesOn 56 = .ok (.iconst 3, 1) := by decide +kernel
theorem dX0_replyGoesOn_57 : decode cX0_replyGoesOn 57 = .ok (.invokevirtual 67, 3) := by decide +kernel
theorem dX0_replyGoesOn_60 : decode cX0_replyGoesOn 60 = .ok (.iconst 1, 1) := by decide +kernel
theorem dX0_replyGoesOn_61 : decode cX0_replyGoesOn 61 = .ok (.iadd, 1) := by decide +kernel
theorem dX0_replyGoesOn_62 : decode cX0_replyGoesOn 62 = .ok (.invokevirtual 44, 3) := by decide +kernel
theorem dX0_replyGoesOn_65 : decode cX0_replyGoesOn 65 = .ok (.aload_n 0, 1) := by decide +kernel
theorem dX0_replyGoesOn_66 : decode cX0_replyGoesOn 66 = .ok (.iload_n 1, 1) := by decide +kernel
theorem dX0_replyGoesOn_67 : decode cX0_replyGoesOn 67 = .ok (.invokevirtual 113, 3) := by decide +kernel
theorem dX0_replyGoesOn_70 : decode cX0_replyGoesOn 70 = .ok (.iconst 0, 1) := by decide +kernel
theorem dX0_replyGoesOn_71 : decode cX0_replyGoesOn 71 = .ok (.ireturn, 1) := by decide +kernel
theorem dX0_markGoesOn_0 : decode cX0_markGoesOn 0 = .ok (.aload_n 0, 1) := by decide +kernel
theorem dX0_markGoesOn_1 : decode cX0_markGoesOn 1 = .ok (.iload_n 1, 1) := by decide +kernel
theorem dX0_markGoesOn_2 : decode cX0_markGoesOn 2 = .ok (.invokevirtual 157, 3) := by decide +kernel
theorem dX0_markGoesOn_5 : decode cX0_markGoesOn 5 = .ok (.ifCond .ne 5, 3) := by decide +kernel
theorem dX0_markGoesOn_8 : decode cX0_markGoesOn 8 = .ok (.iconst 1, 1) := by decide +kernel
theorem dX0_markGoesOn_9 : decode cX0_markGoesOn 9 = .ok (.ireturn, 1) := by decide +kernel
theorem dX0_markGoesOn_10 : decode cX0_markGoesOn 10 = .ok (.aload_n 0, 1) := by decide +kernel
theorem dX0_markGoesOn_11 : decode cX0_markGoesOn 11 = .ok (.iload_n 1, 1) := by decide +kernel
theorem dX0_markGoesOn_12 : decode cX0_markGoesOn 12 = .ok (.iconst 5, 1) := by decide +kernel
theorem dX0_markGoesOn_13 : decode cX0_markGoesOn 13 = .ok (.invokevirtual 67, 3) := by decide +kernel
theorem dX0_markGoesOn_16 : decode cX0_markGoesOn 16 = .ok (.iconst 1, 1) := by decide +kernel
theorem dX0_markGoesOn_17 : decode cX0_markGoesOn 17 = .ok (.if_icmp .ne 7, 3) := by decide +kernel
theorem dX0_markGoesOn_20 : decode cX0_markGoesOn 20 = .ok (.iconst 1, 1) := by decide +kernel
theorem dX0_markGoesOn_21 : decode cX0_markGoesOn 21 = .ok (.goto 4, 3) := by decide +kernel
theorem dX0_markGoesOn_24 : decode cX0_markGoesOn 24 = .ok (.iconst 0, 1) := by decide +kernel
theorem dX0_markGoesOn_25 : decode cX0_markGoesOn 25 = .ok (.istore_n 2, 1) := by decide +kernel
theorem dX0_markGoesOn_26 : decode cX0_markGoesOn 26 = .ok (.aload_n 0, 1) := by decide +kernel
theorem dX0_markGoesOn_27 : decode cX0_markGoesOn 27 = .ok (.getfield 31, 3) := by decide +kernel
theorem dX0_markGoesOn_30 : decode cX0_markGoesOn 30 = .ok (.iconst 1, 1) := by decide +kernel
theorem dX0_markGoesOn_31 : decode cX0_markGoesOn 31 = .ok (.iaload, 1) := by decide +kernel
theorem dX0_markGoesOn_32 : decode cX0_markGoesOn 32 = .ok (.iconst 4, 1) := by decide +kernel
theorem dX0_markGoesOn_33 : decode cX0_markGoesOn 33 = .ok (.if_icmp .ne 15, 3) := by decide +kernel
theorem dX0_markGoesOn_36 : decode cX0_markGoesOn 36 = .ok (.iload_n 2, 1) := by decide +kernel
theorem dX0_markGoesOn_37 : decode cX0_markGoesOn 37 = .ok (.ifCond .ne 11, 3) := by decide +kernel
theorem dX0_markGoesOn_40 : decode cX0_markGoesOn 40 = .ok (.aload_n 0, 1) := by decide +kernel
theorem dX0_markGoesOn_41 : decode cX0_markGoesOn 41 = .ok (.iload_n 1, 1) := by decide +kernel
theorem dX0_markGoesOn_42 : decode cX0_markGoesOn 42 = .ok (.invokevirtual 164, 3) := by decide +kernel
theorem dX0_markGoesOn_45 : decode cX0_markGoesOn 45 = .ok (.goto 22, 3) := by decide +kernel
theorem dX0_markGoesOn_48 : decode cX0_markGoesOn 48 = .ok (.aload_n 0, 1) := by decide +kernel
theorem dX0_markGoesOn_49 : decode cX0_markGoesOn 49 = .ok (.getfield 31, 3) := by decide +kernel
theorem dX0_markGoesOn_52 : decode cX0_markGoesOn 52 = .ok (.iconst 1, 1) := by decide +kernel
theorem dX0_markGoesOn_53 : decode cX0_markGoesOn 53 = .ok (.iaload, 1) := by decide +kernel
theorem dX0_markGoesOn_54 : decode cX0_markGoesOn 54 = .ok (.iconst 5, 1) := by decide +kernel
theorem dX0_markGoesOn_55 : decode cX0_markGoesOn 55 = .ok (.if_icmp .ne 12, 3) := by decide +kernel
theorem dX0_markGoesOn_58 : decode cX0_markGoesOn 58 = .ok (.iload_n 2, 1) := by decide +kernel
theorem dX0_markGoesOn_59 : decode cX0_markGoesOn 59 = .ok (.ifCond .eq 8, 3) := by decide +kernel
theorem dX0_markGoesOn_62 : decode cX0_markGoesOn 62 = .ok (.aload_n 0, 1) := by decide +kernel
theorem dX0_markGoesOn_63 : decode cX0_markGoesOn 63 = .ok (.iload_n 1, 1) := by decide +kernel
theorem dX0_markGoesOn_64 : decode cX0_markGoesOn 64 = .ok (.invokevirtual 167, 3) := by decide +kernel
theorem dX0_markGoesOn_67 : decode cX0_markGoesOn 67 = .ok (.iconst 0, 1) := by decide +kernel
theorem dX0_markGoesOn_68 : decode cX0_markGoesOn 68 = .ok (.ireturn, 1) := by decide +kernel
theorem dX0_takeFirst_0 : decode cX0_takeFirst 0 = .ok (.aload_n 0, 1) := by decide +kernel
theorem dX0_takeFirst_1 : decode cX0_takeFirst 1 = .ok (.getfield 31, 3) := by decide +kernel
theorem dX0_takeFirst_4 : decode cX0_takeFirst 4 = .ok (.iconst 2, 1) := by decide +kernel
theorem dX0_takeFirst_5 : decode cX0_takeFirst 5 = .ok (.iaload, 1) := by decide +kernel
theorem dX0_takeFirst_6 : decode cX0_takeFirst 6 = .ok (.istore_n 2, 1) := by decide +kernel
theorem dX0_takeFirst_7 : decode cX0_takeFirst 7 = .ok (.iload_n 2, 1) := by decide +kernel
theorem dX0_takeFirst_8 : decode cX0_takeFirst 8 = .ok (.aload_n 0, 1) := by decide +kernel
theorem dX0_takeFirst_9 : decode cX0_takeFirst 9 = .ok (.iload_n 1, 1) := by decide +kernel
theorem dX0_takeFirst_10 : decode cX0_takeFirst 10 = .ok (.iconst 2, 1) := by decide +kernel
theorem dX0_takeFirst_11 : decode cX0_takeFirst 11 = .ok (.invokevirtual 67, 3) := by decide +kernel
theorem dX0_takeFirst_14 : decode cX0_takeFirst 14 = .ok (.if_icmp .ne 12, 3) := by decide +kernel
theorem dX0_takeFirst_17 : decode cX0_takeFirst 17 = .ok (.aload_n 0, 1) := by decide +kernel
theorem dX0_takeFirst_18 : decode cX0_takeFirst 18 = .ok (.iload_n 1, 1) := by decide +kernel
theorem dX0_takeFirst_19 : decode cX0_takeFirst 19 = .ok (.iload_n 2, 1) := by decide +kernel
theorem dX0_takeFirst_20 : decode cX0_takeFirst 20 = .ok (.invokevirtual 160, 3) := by decide +kernel
theorem dX0_takeFirst_23 : decode cX0_takeFirst 23 = .ok (.goto 25, 3) := by decide +kernel
theorem dX0_takeFirst_26 : decode cX0_takeFirst 26 = .ok (.aload_n 0, 1) := by decide +kernel
theorem dX0_takeFirst_27 : decode cX0_takeFirst 27 = .ok (.iload_n 1, 1) := by decide +kernel
theorem dX0_takeFirst_28 : decode cX0_takeFirst 28 = .ok (.bipush 6, 2) := by decide +kernel
theorem dX0_takeFirst_30 : decode cX0_takeFirst 30 = .ok (.iload_n 2, 1) := by decide +kernel
theorem dX0_takeFirst_31 : decode cX0_takeFirst 31 = .ok (.invokevirtual 44, 3) := by decide +kernel
theorem dX0_takeFirst_34 : decode cX0_takeFirst 34 = .ok (.aload_n 0, 1) := by decide +kernel
theorem dX0_takeFirst_35 : decode cX0_takeFirst 35 = .ok (.iload_n 1, 1) := by decide +kernel
theorem dX0_takeFirst_36 : decode cX0_takeFirst 36 = .ok (.iconst 5, 1) := by decide +kernel
theorem dX0_takeFirst_37 : decode cX0_takeFirst 37 = .ok (.iconst 1, 1) := by decide +kernel
theorem dX0_takeFirst_38 : decode cX0_takeFirst 38 = .ok (.invokevirtual 44, 3) := by decide +kernel
theorem dX0_takeFirst_41 : decode cX0_takeFirst 41 = .ok (.aload_n 0, 1) := by decide +kernel
theorem dX0_takeFirst_42 : decode cX0_takeFirst 42 = .ok (.iload_n 1, 1) := by decide +kernel
theorem dX0_takeFirst_43 : decode cX0_takeFirst 43 = .ok (.iconst 5, 1) := by decide +kernel
theorem dX0_takeFirst_44 : decode cX0_takeFirst 44 = .ok (.iload_n 2, 1) := by decide +kernel
theorem dX0_takeFirst_45 : decode cX0_takeFirst 45 = .ok (.invokevirtual 110, 3) := by decide +kernel
theorem dX0_takeFirst_48 : decode cX0_takeFirst 48 = .ok (.return_, 1) := by decide +kernel
theorem dX0_takeSecond_0 : decode cX0_takeSecond 0 = .ok (.aload_n 0, 1) := by decide +kernel
theorem dX0_takeSecond_1 : decode cX0_takeSecond 1 = .ok (.iload_n 1, 1) := by decide +kernel
theorem dX0_takeSecond_2 : decode cX0_takeSecond 2 = .ok (.bipush 6, 2) := by decide +kernel
theorem dX0_takeSecond_4 : decode cX0_takeSecond 4 = .ok (.invokevirtual 67, 3) := by decide +kernel
theorem dX0_takeSecond_7 : decode cX0_takeSecond 7 = .ok (.istore_n 2, 1) := by decide +kernel
theorem dX0_takeSecond_8 : decode cX0_takeSecond 8 = .ok (.iload_n 2, 1) := by decide +kernel
theorem dX0_takeSecond_9 : decode cX0_takeSecond 9 = .ok (.aload_n 0, 1) := by decide +kernel
theorem dX0_takeSecond_10 : decode cX0_takeSecond 10 = .ok (.iload_n 1, 1) := by decide +kernel
theorem dX0_takeSecond_11 : decode cX0_takeSecond 11 = .ok (.iconst 2, 1) := by decide +kernel
theorem dX0_takeSecond_12 : decode cX0_takeSecond 12 = .ok (.invokevirtual 67, 3) := by decide +kernel
theorem dX0_takeSecond_15 : decode cX0_takeSecond 15 = .ok (.if_icmp .le 51, 3) := by decide +kernel
theorem dX0_takeSecond_18 : decode cX0_takeSecond 18 = .ok (.iload_n 2, 1) := by decide +kernel
theorem dX0_takeSecond_19 : decode cX0_takeSecond 19 = .ok (.aload_n 0, 1) := by decide +kernel
theorem dX0_takeSecond_20 : decode cX0_takeSecond 20 = .ok (.getfield 31, 3) := by decide +kernel
theorem dX0_takeSecond_23 : decode cX0_takeSecond 23 = .ok (.iconst 2, 1) := by decide +kernel
theorem dX0_takeSecond_24 : decode cX0_takeSecond 24 = .ok (.iaload, 1) := by decide +kernel
theorem dX0_takeSecond_25 : decode cX0_takeSecond 25 = .ok (.if_icmp .le 41, 3) := by decide +kernel
theorem dX0_takeSecond_28 : decode cX0_takeSecond 28 = .ok (.aload_n 0, 1) := by decide +kernel
theorem dX0_takeSecond_29 : decode cX0_takeSecond 29 = .ok (.iload_n 1, 1) := by decide +kernel
theorem dX0_takeSecond_30 : decode cX0_takeSecond 30 = .ok (.iconst 2, 1) := by decide +kernel
theorem dX0_takeSecond_31 : decode cX0_takeSecond 31 = .ok (.iload_n 2, 1) := by decide +kernel
theorem dX0_takeSecond_32 : decode cX0_takeSecond 32 = .ok (.invokevirtual 44, 3) := by decide +kernel
theorem dX0_takeSecond_35 : decode cX0_takeSecond 35 = .ok (.aload_n 0, 1) := by decide +kernel
theorem dX0_takeSecond_36 : decode cX0_takeSecond 36 = .ok (.iload_n 1, 1) := by decide +kernel
theorem dX0_takeSecond_37 : decode cX0_takeSecond 37 = .ok (.iconst 3, 1) := by decide +kernel
theorem dX0_takeSecond_38 : decode cX0_takeSecond 38 = .ok (.aload_n 0, 1) := by decide +kernel
theorem dX0_takeSecond_39 : decode cX0_takeSecond 39 = .ok (.iload_n 1, 1) := by decide +kernel
theorem dX0_takeSecond_40 : decode cX0_takeSecond 40 = .ok (.iconst 3, 1) := by decide +kernel
theorem dX0_takeSecond_41 : decode cX0_takeSecond 41 = .ok (.invokevirtual 67, 3) := by decide +kernel
theorem dX0_takeSecond_44 : decode cX0_takeSecond 44 = .ok (.iconst 1, 1) := by decide +kernel
theorem dX0_takeSecond_45 : decode cX0_takeSecond 45 = .ok (.iadd, 1) := by decide +kernel
theorem dX0_takeSecond_46 : decode cX0_takeSecond 46 = .ok (.invokevirtual 44, 3) := by decide +kernel
theorem dX0_takeSecond_49 : decode cX0_takeSecond 49 = .ok (.aload_n 0, 1) := by decide +kernel
theorem dX0_takeSecond_50 : decode cX0_takeSecond 50 = .ok (.iload_n 1, 1) := by decide +kernel
theorem dX0_takeSecond_51 : decode cX0_takeSecond 51 = .ok (.iconst 5, 1) := by decide +kernel
theorem dX0_takeSecond_52 : decode cX0_takeSecond 52 = .ok (.iconst 0, 1) := by decide +kernel
theorem dX0_takeSecond_53 : decode cX0_takeSecond 53 = .ok (.invokevirtual 44, 3) := by decide +kernel
theorem dX0_takeSecond_56 : decode cX0_takeSecond 56 = .ok (.aload_n 0, 1) := by decide +kernel
theorem dX0_takeSecond_57 : decode cX0_takeSecond 57 = .ok (.iload_n 1, 1) := by decide +kernel
theorem dX0_takeSecond_58 : decode cX0_takeSecond 58 = .ok (.iconst 4, 1) := by decide +kernel
theorem dX0_takeSecond_59 : decode cX0_takeSecond 59 = .ok (.iload_n 2, 1) := by decide +kernel
theorem dX0_takeSecond_60 : decode cX0_takeSecond 60 = .ok (.invokevirtual 110, 3) := by decide +kernel
theorem dX0_takeSecond_63 : decode cX0_takeSecond 63 = .ok (.goto 10, 3) := by decide +kernel
theorem dX0_takeSecond_66 : decode cX0_takeSecond 66 = .ok (.aload_n 0, 1) := by decide +kernel
theorem dX0_takeSecond_67 : decode cX0_takeSecond 67 = .ok (.iload_n 1, 1) := by decide +kernel
theorem dX0_takeSecond_68 : decode cX0_takeSecond 68 = .ok (.iconst 0, 1) := by decide +kernel
theorem dX0_takeSecond_69 : decode cX0_takeSecond 69 = .ok (.iconst 2, 1) := by decide +kernel
theorem dX0_takeSecond_70 : decode cX0_takeSecond 70 = .ok (.invokevirtual 44, 3) := by decide +kernel
theorem dX0_takeSecond_73 : decode cX0_takeSecond 73 = .ok (.return_, 1) := by decide +kernel
theorem dX0_tokenGoesOn_0 : decode cX0_tokenGoesOn 0 = .ok (.aload_n 0, 1) := by decide +kernel
theorem dX0_tokenGoesOn_1 : decode cX0_tokenGoesOn 1 = .ok (.getfield 31, 3) := by decide +kernel
theorem dX0_tokenGoesOn_4 : decode cX0_tokenGoesOn 4 = .ok (.iconst 4, 1) := by decide +kernel
theorem dX0_tokenGoesOn_5 : decode cX0_tokenGoesOn 5 = .ok (.iaload, 1) := by decide +kernel
theorem dX0_tokenGoesOn_6 : decode cX0_tokenGoesOn 6 = .ok (.aload_n 0, 1) := by decide +kernel
theorem dX0_tokenGoesOn_7 : decode cX0_tokenGoesOn 7 = .ok (.getfield 34, 3) := by decide +kernel
theorem dX0_tokenGoesOn_10 : decode cX0_tokenGoesOn 10 = .ok (.getfield 64, 3) := by decide +kernel
theorem dX0_tokenGoesOn_13 : decode cX0_tokenGoesOn 13 = .ok (.if_icmp .eq 7, 3) := by decide +kernel
theorem dX0_tokenGoesOn_16 : decode cX0_tokenGoesOn 16 = .ok (.iconst 1, 1) := by decide +kernel
theorem dX0_tokenGoesOn_17 : decode cX0_tokenGoesOn 17 = .ok (.goto 4, 3) := by decide +kernel
theorem dX0_tokenGoesOn_20 : decode cX0_tokenGoesOn 20 = .ok (.iconst 0, 1) := by decide +kernel
theorem dX0_tokenGoesOn_21 : decode cX0_tokenGoesOn 21 = .ok (.istore_n 2, 1) := by decide +kernel
theorem dX0_tokenGoesOn_22 : decode cX0_tokenGoesOn 22 = .ok (.aload_n 0, 1) := by decide +kernel
theorem dX0_tokenGoesOn_23 : decode cX0_tokenGoesOn 23 = .ok (.iload_n 1, 1) := by decide +kernel
theorem dX0_tokenGoesOn_24 : decode cX0_tokenGoesOn 24 = .ok (.invokevirtual 157, 3) := by decide +kernel
theorem dX0_tokenGoesOn_27 : decode cX0_tokenGoesOn 27 = .ok (.ifCond .eq 21, 3) := by decide +kernel
theorem dX0_tokenGoesOn_30 : decode cX0_tokenGoesOn 30 = .ok (.iload_n 2, 1) := by decide +kernel
theorem dX0_tokenGoesOn_31 : decode cX0_tokenGoesOn 31 = .ok (.ifCond .eq 11, 3) := by decide +kernel
theorem dX0_tokenGoesOn_34 : decode cX0_tokenGoesOn 34 = .ok (.aload_n 0, 1) := by decide +kernel
theorem dX0_tokenGoesOn_35 : decode cX0_tokenGoesOn 35 = .ok (.iload_n 1, 1) := by decide +kernel
theorem dX0_tokenGoesOn_36 : decode cX0_tokenGoesOn 36 = .ok (.invokevirtual 170, 3) := by decide +kernel
theorem dX0_tokenGoesOn_39 : decode cX0_tokenGoesOn 39 = .ok (.goto 8, 3) := by decide +kernel
theorem dX0_tokenGoesOn_42 : decode cX0_tokenGoesOn 42 = .ok (.aload_n 0, 1) := by decide +kernel
theorem dX0_tokenGoesOn_43 : decode cX0_tokenGoesOn 43 = .ok (.iload_n 1, 1) := by decide +kernel
theorem dX0_tokenGoesOn_44 : decode cX0_tokenGoesOn 44 = .ok (.invokevirtual 173, 3) := by decide +kernel
theorem dX0_tokenGoesOn_47 : decode cX0_tokenGoesOn 47 = .ok (.istore_n 2, 1) := by decide +kernel
theorem dX0_tokenGoesOn_48 : decode cX0_tokenGoesOn 48 = .ok (.aload_n 0, 1) := by decide +kernel
theorem dX0_tokenGoesOn_49 : decode cX0_tokenGoesOn 49 = .ok (.getfield 31, 3) := by decide +kernel
theorem dX0_tokenGoesOn_52 : decode cX0_tokenGoesOn 52 = .ok (.iconst 4, 1) := by decide +kernel
theorem dX0_tokenGoesOn_53 : decode cX0_tokenGoesOn 53 = .ok (.dup2, 1) := by decide +kernel
theorem dX0_tokenGoesOn_54 : decode cX0_tokenGoesOn 54 = .ok (.iaload, 1) := by decide +kernel
theorem dX0_tokenGoesOn_55 : decode cX0_tokenGoesOn 55 = .ok (.iconst 1, 1) := by decide +kernel
theorem dX0_tokenGoesOn_56 : decode cX0_tokenGoesOn 56 = .ok (.iadd, 1) := by decide +kernel
theorem dX0_tokenGoesOn_57 : decode cX0_tokenGoesOn 57 = .ok (.iastore, 1) := by decide +kernel
theorem dX0_tokenGoesOn_58 : decode cX0_tokenGoesOn 58 = .ok (.iload_n 2, 1) := by decide +kernel
theorem dX0_tokenGoesOn_59 : decode cX0_tokenGoesOn 59 = .ok (.ireturn, 1) := by decide +kernel
theorem dX0_tokenComesHome_0 : decode cX0_tokenComesHome 0 = .ok (.aload_n 0, 1) := by decide +kernel
theorem dX0_tokenComesHome_1 : decode cX0_tokenComesHome 1 = .ok (.getfield 31, 3) := by decide +kernel
theorem dX0_tokenComesHome_4 : decode cX0_tokenComesHome 4 = .ok (.iconst 5, 1) := by decide +kernel
theorem dX0_tokenComesHome_5 : decode cX0_tokenComesHome 5 = .ok (.iaload, 1) := by decide +kernel
theorem dX0_tokenComesHome_6 : decode cX0_tokenComesHome 6 = .ok (.iconst 1, 1) := by decide +kernel
theorem dX0_tokenComesHome_7 : decode cX0_tokenComesHome 7 = .ok (.if_icmp .ne 17, 3) := by decide +kernel
theorem dX0_tokenComesHome_10 : decode cX0_tokenComesHome 10 = .ok (.aload_n 0, 1) := by decide +kernel
theorem dX0_tokenComesHome_11 : decode cX0_tokenComesHome 11 = .ok (.iload_n 1, 1) := by decide +kernel
theorem dX0_tokenComesHome_12 : decode cX0_tokenComesHome 12 = .ok (.aload_n 0, 1) := by decide +kernel
theorem dX0_tokenComesHome_13 : decode cX0_tokenComesHome 13 = .ok (.getfield 31, 3) := by decide +kernel
theorem dX0_tokenComesHome_16 : decode cX0_tokenComesHome 16 = .ok (.iconst 2, 1) := by decide +kernel
theorem dX0_tokenComesHome_17 : decode cX0_tokenComesHome 17 = .ok (.iaload, 1) := by decide +kernel
theorem dX0_tokenComesHome_18 : decode cX0_tokenComesHome 18 = .ok (.invokevirtual 160, 3) := by decide +kernel
theorem dX0_tokenComesHome_21 : decode cX0_tokenComesHome 21 = .ok (.goto 22, 3) := by decide +kernel
theorem dX0_tokenComesHome_24 : decode cX0_tokenComesHome 24 = .ok (.aload_n 0, 1) := by decide +kernel
theorem dX0_tokenComesHome_25 : decode cX0_tokenComesHome 25 = .ok (.iload_n 1, 1) := by decide +kernel
theorem dX0_tokenComesHome_26 : decode cX0_tokenComesHome 26 = .ok (.iconst 3, 1) := by decide +kernel
theorem dX0_tokenComesHome_27 : decode cX0_tokenComesHome 27 = .ok (.aload_n 0, 1) := by decide +kernel
theorem dX0_tokenComesHome_28 : decode cX0_tokenComesHome 28 = .ok (.iload_n 1, 1) := by decide +kernel
theorem dX0_tokenComesHome_29 : decode cX0_tokenComesHome 29 = .ok (.iconst 3, 1) := by decide +kernel
theorem dX0_tokenComesHome_30 : decode cX0_tokenComesHome 30 = .ok (.invokevirtual 67, 3) := by decide +kernel
theorem dX0_tokenComesHome_33 : decode cX0_tokenComesHome 33 = .ok (.iconst 1, 1) := by decide +kernel
theorem dX0_tokenComesHome_34 : decode cX0_tokenComesHome 34 = .ok (.iadd, 1) := by decide +kernel
theorem dX0_tokenComesHome_35 : decode cX0_tokenComesHome 35 = .ok (.invokevirtual 44, 3) := by decide +kernel
theorem dX0_tokenComesHome_38 : decode cX0_tokenComesHome 38 = .ok (.aload_n 0, 1) := by decide +kernel
theorem dX0_tokenComesHome_39 : decode cX0_tokenComesHome 39 = .ok (.iload_n 1, 1) := by decide +kernel
theorem dX0_tokenComesHome_40 : decode cX0_tokenComesHome 40 = .ok (.invokevirtual 117, 3) := by decide +kernel
theorem dX0_tokenComesHome_43 : decode cX0_tokenComesHome 43 = .ok (.iconst 0, 1) := by decide +kernel
theorem dX0_tokenComesHome_44 : decode cX0_tokenComesHome 44 = .ok (.ireturn, 1) := by decide +kernel
theorem dX0_tokenGetsPast_0 : decode cX0_tokenGetsPast 0 = .ok (.aload_n 0, 1) := by decide +kernel
theorem dX0_tokenGetsPast_1 : decode cX0_tokenGetsPast 1 = .ok (.getfield 31, 3) := by decide +kernel
theorem dX0_tokenGetsPast_4 : decode cX0_tokenGetsPast 4 = .ok (.iconst 3, 1) := by decide +kernel
theorem dX0_tokenGetsPast_5 : decode cX0_tokenGetsPast 5 = .ok (.iaload, 1) := by decide +kernel
theorem dX0_tokenGetsPast_6 : decode cX0_tokenGetsPast 6 = .ok (.aload_n 0, 1) := by decide +kernel
theorem dX0_tokenGetsPast_7 : decode cX0_tokenGetsPast 7 = .ok (.iload_n 1, 1) := by decide +kernel
theorem dX0_tokenGetsPast_8 : decode cX0_tokenGetsPast 8 = .ok (.iconst 3, 1) := by decide +kernel
theorem dX0_tokenGetsPast_9 : decode cX0_tokenGetsPast 9 = .ok (.invokevirtual 67, 3) := by decide +kernel
theorem dX0_tokenGetsPast_12 : decode cX0_tokenGetsPast 12 = .ok (.isub, 1) := by decide +kernel
theorem dX0_tokenGetsPast_13 : decode cX0_tokenGetsPast 13 = .ok (.istore_n 2, 1) := by decide +kernel
theorem dX0_tokenGetsPast_14 : decode cX0_tokenGetsPast 14 = .ok (.aload_n 0, 1) := by decide +kernel
theorem dX0_tokenGetsPast_15 : decode cX0_tokenGetsPast 15 = .ok (.getfield 31, 3) := by decide +kernel
theorem dX0_tokenGetsPast_18 : decode cX0_tokenGetsPast 18 = .ok (.iconst 2, 1) := by decide +kernel
theorem dX0_tokenGetsPast_19 : decode cX0_tokenGetsPast 19 = .ok (.iaload, 1) := by decide +kernel
theorem dX0_tokenGetsPast_20 : decode cX0_tokenGetsPast 20 = .ok (.aload_n 0, 1) := by decide +kernel
theorem dX0_tokenGetsPast_21 : decode cX0_tokenGetsPast 21 = .ok (.iload_n 1, 1) := by decide +kernel
theorem dX0_tokenGetsPast_22 : decode cX0_tokenGetsPast 22 = .ok (.iconst 2, 1) := by decide +kernel
theorem dX0_tokenGetsPast_23 : decode cX0_tokenGetsPast 23 = .ok (.invokevirtual 67, 3) := by decide +kernel
theorem dX0_tokenGetsPast_26 : decode cX0_tokenGetsPast 26 = .ok (.isub, 1) := by decide +kernel
theorem dX0_tokenGetsPast_27 : decode cX0_tokenGetsPast 27 = .ok (.istore_n 3, 1) := by decide +kernel
theorem dX0_tokenGetsPast_28 : decode cX0_tokenGetsPast 28 = .ok (.iload_n 2, 1) := by decide +kernel
theorem dX0_tokenGetsPast_29 : decode cX0_tokenGetsPast 29 = .ok (.ifCond .ne 16, 3) := by decide +kernel
theorem dX0_tokenGetsPast_32 : decode cX0_tokenGetsPast 32 = .ok (.iload_n 3, 1) := by decide +kernel
theorem dX0_tokenGetsPast_33 : decode cX0_tokenGetsPast 33 = .ok (.ifCond .ne 12, 3) := by decide +kernel
theorem dX0_tokenGetsPast_36 : decode cX0_tokenGetsPast 36 = .ok (.aload_n 0, 1) := by decide +kernel
theorem dX0_tokenGetsPast_37 : decode cX0_tokenGetsPast 37 = .ok (.getfield 31, 3) := by decide +kernel
theorem dX0_tokenGetsPast_40 : decode cX0_tokenGetsPast 40 = .ok (.iconst 5, 1) := by decide +kernel
theorem dX0_tokenGetsPast_41 : decode cX0_tokenGetsPast 41 = .ok (.iconst 0, 1) := by decide +kernel
theorem dX0_tokenGetsPast_42 : decode cX0_tokenGetsPast 42 = .ok (.iastore, 1) := by decide +kernel
theorem dX0_tokenGetsPast_43 : decode cX0_tokenGetsPast 43 = .ok (.iconst 1, 1) := by decide +kernel
theorem dX0_tokenGetsPast_44 : decode cX0_tokenGetsPast 44 = .ok (.ireturn, 1) := by decide +kernel
theorem dX0_tokenGetsPast_45 : decode cX0_tokenGetsPast 45 = .ok (.iload_n 2, 1) := by decide +kernel
theorem dX0_tokenGetsPast_46 : decode cX0_tokenGetsPast 46 = .ok (.ifCond .gt 11, 3) := by decide +kernel
theorem dX0_tokenGetsPast_49 : decode cX0_tokenGetsPast 49 = .ok (.iload_n 2, 1) := by decide +kernel
theorem dX0_tokenGetsPast_50 : decode cX0_tokenGetsPast 50 = .ok (.ifCond .ne 16, 3) := by decide +kernel
theorem dX0_tokenGetsPast_53 : decode cX0_tokenGetsPast 53 = .ok (.iload_n 3, 1) := by decide +kernel
theorem dX0_tokenGetsPast_54 : decode cX0_tokenGetsPast 54 = .ok (.ifCond .le 12, 3) := by decide +kernel
theorem dX0_tokenGetsPast_57 : decode cX0_tokenGetsPast 57 = .ok (.aload_n 0, 1) := by decide +kernel
theorem dX0_tokenGetsPast_58 : decode cX0_tokenGetsPast 58 = .ok (.iload_n 1, 1) := by decide +kernel
theorem dX0_tokenGetsPast_59 : decode cX0_tokenGetsPast 59 = .ok (.iconst 0, 1) := by decide +kernel
theorem dX0_tokenGetsPast_60 : decode cX0_tokenGetsPast 60 = .ok (.iconst 2, 1) := by decide +kernel
theorem dX0_tokenGetsPast_61 : decode cX0_tokenGetsPast 61 = .ok (.invokevirtual 44, 3) := by decide +kernel
theorem dX0_tokenGetsPast_64 : decode cX0_tokenGetsPast 64 = .ok (.iconst 1, 1) := by decide +kernel
theorem dX0_tokenGetsPast_65 : decode cX0_tokenGetsPast 65 = .ok (.ireturn, 1) := by decide +kernel
theorem dX0_tokenGetsPast_66 : decode cX0_tokenGetsPast 66 = .ok (.iconst 0, 1) := by decide +kernel
theorem dX0_tokenGetsPast_67 : decode cX0_tokenGetsPast 67 = .ok (.ireturn, 1) := by decide +kernel
theorem dX0_isRunning_0 : decode cX0_isRunning 0 = .ok (.aload_n 0, 1) := by decide +kernel
theorem dX0_isRunning_1 : decode cX0_isRunning 1 = .ok (.iload_n 1, 1) := by decide +kernel
theorem dX0_isRunning_2 : decode cX0_isRunning 2 = .ok (.iconst 0, 1) := by decide +kernel
theorem dX0_isRunning_3 : decode cX0_isRunning 3 = .ok (.invokevirtual 67, 3) := by decide +kernel
theorem dX0_isRunning_6 : decode cX0_isRunning 6 = .ok (.iconst 1, 1) := by decide +kernel
theorem dX0_isRunning_7 : decode cX0_isRunning 7 = .ok (.if_icmp .ne 7, 3) := by decide +kernel
theorem dX0_isRunning_10 : decode cX0_isRunning 10 = .ok (.iconst 1, 1) := by decide +kernel
theorem dX0_isRunning_11 : decode cX0_isRunning 11 = .ok (.goto 4, 3) := by decide +kernel
theorem dX0_isRunning_14 : decode cX0_isRunning 14 = .ok (.iconst 0, 1) := by decide +kernel
theorem dX0_isRunning_15 : decode cX0_isRunning 15 = .ok (.ireturn, 1) := by decide +kernel
theorem dX0_becomeHead_0 : decode cX0_becomeHead 0 = .ok (.aload_n 0, 1) := by decide +kernel
theorem dX0_becomeHead_1 : decode cX0_becomeHead 1 = .ok (.iload_n 1, 1) := by decide +kernel
theorem dX0_becomeHead_2 : decode cX0_becomeHead 2 = .ok (.iconst 0, 1) := by decide +kernel
theorem dX0_becomeHead_3 : decode cX0_becomeHead 3 = .ok (.iconst 3, 1) := by decide +kernel
theorem dX0_becomeHead_4 : decode cX0_becomeHead 4 = .ok (.invokevirtual 44, 3) := by decide +kernel
theorem dX0_becomeHead_7 : decode cX0_becomeHead 7 = .ok (.aload_n 0, 1) := by decide +kernel
theorem dX0_becomeHead_8 : decode cX0_becomeHead 8 = .ok (.iload_n 1, 1) := by decide +kernel
theorem dX0_becomeHead_9 : decode cX0_becomeHead 9 = .ok (.iconst 4, 1) := by decide +kernel
theorem dX0_becomeHead_10 : decode cX0_becomeHead 10 = .ok (.iload_n 2, 1) := by decide +kernel
theorem dX0_becomeHead_11 : decode cX0_becomeHead 11 = .ok (.invokevirtual 44, 3) := by decide +kernel
theorem dX0_becomeHead_14 : decode cX0_becomeHead 14 = .ok (.aload_n 0, 1) := by decide +kernel
theorem dX0_becomeHead_15 : decode cX0_becomeHead 15 = .ok (.iload_n 1, 1) := by decide +kernel
theorem dX0_becomeHead_16 : decode cX0_becomeHead 16 = .ok (.aload_n 0, 1) := by decide +kernel
theorem dX0_becomeHead_17 : decode cX0_becomeHead 17 = .ok (.iload_n 1, 1) := by decide +kernel
theorem dX0_becomeHead_18 : decode cX0_becomeHead 18 = .ok (.iconst 1, 1) := by decide +kernel
theorem dX0_becomeHead_19 : decode cX0_becomeHead 19 = .ok (.invokevirtual 67, 3) := by decide +kernel
theorem dX0_becomeHead_22 : decode cX0_becomeHead 22 = .ok (.invokestatic 132, 3) := by decide +kernel
theorem dX0_becomeHead_25 : decode cX0_becomeHead 25 = .ok (.bipush 7, 2) := by decide +kernel
theorem dX0_becomeHead_27 : decode cX0_becomeHead 27 = .ok (.iload_n 2, 1) := by decide +kernel
theorem dX0_becomeHead_28 : decode cX0_becomeHead 28 = .ok (.iconst (-1), 1) := by decide +kernel
theorem dX0_becomeHead_29 : decode cX0_becomeHead 29 = .ok (.iconst (-1), 1) := by decide +kernel
theorem dX0_becomeHead_30 : decode cX0_becomeHead 30 = .ok (.iconst (-1), 1) := by decide +kernel
theorem dX0_becomeHead_31 : decode cX0_becomeHead 31 = .ok (.invokevirtual 135, 3) := by decide +kernel
theorem dX0_becomeHead_34 : decode cX0_becomeHead 34 = .ok (.return_, 1) := by decide +kernel
theorem dX0_sendProbes_0 : decode cX0_sendProbes 0 = .ok (.aload_n 0, 1) := by decide +kernel
theorem dX0_sendProbes_1 : decode cX0_sendProbes 1 = .ok (.iload_n 1, 1) := by decide +kernel
theorem dX0_sendProbes_2 : decode cX0_sendProbes 2 = .ok (.iconst 3, 1) := by decide +kernel
theorem dX0_sendProbes_3 : decode cX0_sendProbes 3 = .ok (.invokevirtual 67, 3) := by decide +kernel
theorem dX0_sendProbes_6 : decode cX0_sendProbes 6 = .ok (.istore_n 2, 1) := by decide +kernel
theorem dX0_sendProbes_7 : decode cX0_sendProbes 7 = .ok (.aload_n 0, 1) := by decide +kernel
theorem dX0_sendProbes_8 : decode cX0_sendProbes 8 = .ok (.getfield 34, 3) := by decide +kernel
theorem dX0_sendProbes_11 : decode cX0_sendProbes 11 = .ok (.iload_n 1, 1) := by decide +kernel
theorem dX0_sendProbes_12 : decode cX0_sendProbes 12 = .ok (.invokevirtual 107, 3) := by decide +kernel
theorem dX0_sendProbes_15 : decode cX0_sendProbes 15 = .ok (.istore_n 3, 1) := by decide +kernel
theorem dX0_sendProbes_16 : decode cX0_sendProbes 16 = .ok (.aload_n 0, 1) := by decide +kernel
theorem dX0_sendProbes_17 : decode cX0_sendProbes 17 = .ok (.iload_n 1, 1) := by decide +kernel
theorem dX0_sendProbes_18 : decode cX0_sendProbes 18 = .ok (.iconst 5, 1) := by decide +kernel
theorem dX0_sendProbes_19 : decode cX0_sendProbes 19 = .ok (.iconst 0, 1) := by decide +kernel
theorem dX0_sendProbes_20 : decode cX0_sendProbes 20 = .ok (.invokevirtual 44, 3) := by decide +kernel
theorem dX0_sendProbes_23 : decode cX0_sendProbes 23 = .ok (.aload_n 0, 1) := by decide +kernel
theorem dX0_sendProbes_24 : decode cX0_sendProbes 24 = .ok (.iload_n 1, 1) := by decide +kernel
theorem dX0_sendProbes_25 : decode cX0_sendProbes 25 = .ok (.iconst 0, 1) := by decide +kernel
theorem dX0_sendProbes_26 : decode cX0_sendProbes 26 = .ok (.invokestatic 132, 3) := by decide +kernel
theorem dX0_sendProbes_29 : decode cX0_sendProbes 29 = .ok (.iconst 2, 1) := by decide +kernel
theorem dX0_sendProbes_30 : decode cX0_sendProbes 30 = .ok (.iload_n 3, 1) := by decide +kernel
theorem dX0_sendProbes_31 : decode cX0_sendProbes 31 = .ok (.iload_n 2, 1) := by decide +kernel
theorem dX0_sendProbes_32 : decode cX0_sendProbes 32 = .ok (.iconst 1, 1) := by decide +kernel
theorem dX0_sendProbes_33 : decode cX0_sendProbes 33 = .ok (.iload_n 2, 1) := by decide +kernel
theorem dX0_sendProbes_34 : decode cX0_sendProbes 34 = .ok (.ishl, 1) := by decide +kernel
theorem dX0_sendProbes_35 : decode cX0_sendProbes 35 = .ok (.iconst (-1), 1) := by decide +kernel
theorem dX0_sendProbes_36 : decode cX0_sendProbes 36 = .ok (.invokevirtual 135, 3) := by decide +kernel
theorem dX0_sendProbes_39 : decode cX0_sendProbes 39 = .ok (.aload_n 0, 1) := by decide +kernel
theorem dX0_sendProbes_40 : decode cX0_sendProbes 40 = .ok (.iload_n 1, 1) := by decide +kernel
theorem dX0_sendProbes_41 : decode cX0_sendProbes 41 = .ok (.iconst 1, 1) := by decide +kernel
theorem dX0_sendProbes_42 : decode cX0_sendProbes 42 = .ok (.invokestatic 132, 3) := by decide +kernel
theorem dX0_sendProbes_45 : decode cX0_sendProbes 45 = .ok (.iconst 2, 1) := by decide +kernel
theorem dX0_sendProbes_46 : decode cX0_sendProbes 46 = .ok (.iload_n 3, 1) := by decide +kernel
theorem dX0_sendProbes_47 : decode cX0_sendProbes 47 = .ok (.iload_n 2, 1) := by decide +kernel
theorem dX0_sendProbes_48 : decode cX0_sendProbes 48 = .ok (.iconst 1, 1) := by decide +kernel
theorem dX0_sendProbes_49 : decode cX0_sendProbes 49 = .ok (.iload_n 2, 1) := by decide +kernel
theorem dX0_sendProbes_50 : decode cX0_sendProbes 50 = .ok (.ishl, 1) := by decide +kernel
theorem dX0_sendProbes_51 : decode cX0_sendProbes 51 = .ok (.iconst (-1), 1) := by decide +kernel
theorem dX0_sendProbes_52 : decode cX0_sendProbes 52 = .ok (.invokevirtual 135, 3) := by decide +kernel
theorem dX0_sendProbes_55 : decode cX0_sendProbes 55 = .ok (.return_, 1) := by decide +kernel
theorem dX0_draw_0 : decode cX0_draw 0 = .ok (.aload_n 0, 1) := by decide +kernel
theorem dX0_draw_1 : decode cX0_draw 1 = .ok (.iload_n 1, 1) := by decide +kernel
theorem dX0_draw_2 : decode cX0_draw 2 = .ok (.bipush 7, 2) := by decide +kernel
theorem dX0_draw_4 : decode cX0_draw 4 = .ok (.invokevirtual 67, 3) := by decide +kernel
theorem dX0_draw_7 : decode cX0_draw 7 = .ok (.invokestatic 81, 3) := by decide +kernel
theorem dX0_draw_10 : decode cX0_draw 10 = .ok (.istore_n 2, 1) := by decide +kernel
theorem dX0_draw_11 : decode cX0_draw 11 = .ok (.aload_n 0, 1) := by decide +kernel
theorem dX0_draw_12 : decode cX0_draw 12 = .ok (.getfield 15, 3) := by decide +kernel
theorem dX0_draw_15 : decode cX0_draw 15 = .ok (.ifCond .le 14, 3) := by decide +kernel
theorem dX0_draw_18 : decode cX0_draw 18 = .ok (.iconst 1, 1) := by decide +kernel
theorem dX0_draw_19 : decode cX0_draw 19 = .ok (.iload_n 2, 1) := by decide +kernel
theorem dX0_draw_20 : decode cX0_draw 20 = .ok (.aload_n 0, 1) := by decide +kernel
theorem dX0_draw_21 : decode cX0_draw 21 = .ok (.getfield 15, 3) := by decide +kernel
theorem dX0_draw_24 : decode cX0_draw 24 = .ok (.irem, 1) := by decide +kernel
theorem dX0_draw_25 : decode cX0_draw 25 = .ok (.iadd, 1) := by decide +kernel
theorem dX0_draw_26 : decode cX0_draw 26 = .ok (.goto 4, 3) := by decide +kernel
theorem dX0_draw_29 : decode cX0_draw 29 = .ok (.iconst 1, 1) := by decide +kernel
theorem dX0_draw_30 : decode cX0_draw 30 = .ok (.istore_n 3, 1) := by decide +kernel
theorem dX0_draw_31 : decode cX0_draw 31 = .ok (.iload_n 1, 1) := by decide +kernel
theorem dX0_draw_32 : decode cX0_draw 32 = .ok (.aload_n 0, 1) := by decide +kernel
theorem dX0_draw_33 : decode cX0_draw 33 = .ok (.iload_n 1, 1) := by decide +kernel
theorem dX0_draw_34 : decode cX0_draw 34 = .ok (.iconst 1, 1) := by decide +kernel
theorem dX0_draw_35 : decode cX0_draw 35 = .ok (.invokevirtual 67, 3) := by decide +kernel
theorem dX0_draw_38 : decode cX0_draw 38 = .ok (.invokestatic 132, 3) := by decide +kernel
theorem dX0_draw_41 : decode cX0_draw 41 = .ok (.istore 4, 2) := by decide +kernel
theorem dX0_draw_43 : decode cX0_draw 43 = .ok (.aload_n 0, 1) := by decide +kernel
theorem dX0_draw_44 : decode cX0_draw 44 = .ok (.iload_n 1, 1) := by decide +kernel
theorem dX0_draw_45 : decode cX0_draw 45 = .ok (.bipush 7, 2) := by decide +kernel
theorem dX0_draw_47 : decode cX0_draw 47 = .ok (.iload_n 2, 1) := by decide +kernel
theorem dX0_draw_48 : decode cX0_draw 48 = .ok (.invokevirtual 44, 3) := by decide +kernel
theorem dX0_draw_51 : decode cX0_draw 51 = .ok (.aload_n 0, 1) := by decide +kernel
theorem dX0_draw_52 : decode cX0_draw 52 = .ok (.iload_n 1, 1) := by decide +kernel
theorem dX0_draw_53 : decode cX0_draw 53 = .ok (.iconst 2, 1) := by decide +kernel
theorem dX0_draw_54 : decode cX0_draw 54 = .ok (.iload_n 3, 1) := by decide +kernel
theorem dX0_draw_55 : decode cX0_draw 55 = .ok (.invokevirtual 44, 3) := by decide +kernel
theorem dX0_draw_58 : decode cX0_draw 58 = .ok (.aload_n 0, 1) := by decide +kernel
theorem dX0_draw_59 : decode cX0_draw 59 = .ok (.iload 4, 2) := by decide +kernel
theorem dX0_draw_61 : decode cX0_draw 61 = .ok (.bipush 6, 2) := by decide +kernel
theorem dX0_draw_63 : decode cX0_draw 63 = .ok (.iload_n 3, 1) := by decide +kernel
theorem dX0_draw_64 : decode cX0_draw 64 = .ok (.aload_n 0, 1) := by decide +kernel
theorem dX0_draw_65 : decode cX0_draw 65 = .ok (.iload_n 1, 1) := by decide +kernel
theorem dX0_draw_66 : decode cX0_draw 66 = .ok (.iconst 3, 1) := by decide +kernel
theorem dX0_draw_67 : decode cX0_draw 67 = .ok (.invokevirtual 67, 3) := by decide +kernel
theorem dX0_draw_70 : decode cX0_draw 70 = .ok (.iconst 1, 1) := by decide +kernel
theorem dX0_draw_71 : decode cX0_draw 71 = .ok (.iconst 1, 1) := by decide +kernel
theorem dX0_draw_72 : decode cX0_draw 72 = .ok (.invokevirtual 135, 3) := by decide +kernel
theorem dX0_draw_75 : decode cX0_draw 75 = .ok (.return_, 1) := by decide +kernel
theorem dX0_sendRight_0 : decode cX0_sendRight 0 = .ok (.aload_n 0, 1) := by decide +kernel
theorem dX0_sendRight_1 : decode cX0_sendRight 1 = .ok (.iload_n 1, 1) := by decide +kernel
theorem dX0_sendRight_2 : decode cX0_sendRight 2 = .ok (.aload_n 0, 1) := by decide +kernel
theorem dX0_sendRight_3 : decode cX0_sendRight 3 = .ok (.iload_n 1, 1) := by decide +kernel
theorem dX0_sendRight_4 : decode cX0_sendRight 4 = .ok (.iconst 1, 1) := by decide +kernel
theorem dX0_sendRight_5 : decode cX0_sendRight 5 = .ok (.invokevirtual 67, 3) := by decide +kernel
theorem dX0_sendRight_8 : decode cX0_sendRight 8 = .ok (.invokestatic 132, 3) := by decide +kernel
theorem dX0_sendRight_11 : decode cX0_sendRight 11 = .ok (.iload_n 2, 1) := by decide +kernel
theorem dX0_sendRight_12 : decode cX0_sendRight 12 = .ok (.iload_n 3, 1) := by decide +kernel
theorem dX0_sendRight_13 : decode cX0_sendRight 13 = .ok (.iconst (-1), 1) := by decide +kernel
theorem dX0_sendRight_14 : decode cX0_sendRight 14 = .ok (.iconst (-1), 1) := by decide +kernel
theorem dX0_sendRight_15 : decode cX0_sendRight 15 = .ok (.iconst (-1), 1) := by decide +kernel
theorem dX0_sendRight_16 : decode cX0_sendRight 16 = .ok (.invokevirtual 135, 3) := by decide +kernel
theorem dX0_sendRight_19 : decode cX0_sendRight 19 = .ok (.return_, 1) := by decide +kernel
theorem dX0_send_0 : decode cX0_send 0 = .ok (.aload_n 0, 1) := by decide +kernel
theorem dX0_send_1 : decode cX0_send 1 = .ok (.getfield 25, 3) := by decide +kernel
theorem dX0_send_4 : decode cX0_send 4 = .ok (.ifCond .lt 23, 3) := by decide +kernel
theorem dX0_send_7 : decode cX0_send 7 = .ok (.aload_n 0, 1) := by decide +kernel
theorem dX0_send_8 : decode cX0_send 8 = .ok (.getfield 25, 3) := by decide +kernel
theorem dX0_send_11 : decode cX0_send 11 = .ok (.bipush 12, 2) := by decide +kernel
theorem dX0_send_13 : decode cX0_send 13 = .ok (.if_icmp .ge 14, 3) := by decide +kernel
theorem dX0_send_16 : decode cX0_send 16 = .ok (.iload_n 2, 1) := by decide +kernel
theorem dX0_send_17 : decode cX0_send 17 = .ok (.iconst 1, 1) := by decide +kernel
theorem dX0_send_18 : decode cX0_send 18 = .ok (.if_icmp .lt 9, 3) := by decide +kernel
theorem dX0_send_21 : decode cX0_send 21 = .ok (.iload_n 2, 1) := by decide +kernel
theorem dX0_send_22 : decode cX0_send 22 = .ok (.bipush 7, 2) := by decide +kernel
theorem dX0_send_24 : decode cX0_send 24 = .ok (.if_icmp .le 4, 3) := by decide +kernel
theorem dX0_send_27 : decode cX0_send 27 = .ok (.return_, 1) := by decide +kernel
theorem dX0_send_28 : decode cX0_send 28 = .ok (.aload_n 0, 1) := by decide +kernel
theorem dX0_send_29 : decode cX0_send 29 = .ok (.getfield 25, 3) := by decide +kernel
theorem dX0_send_32 : decode cX0_send 32 = .ok (.bipush 6, 2) := by decide +kernel
theorem dX0_send_34 : decode cX0_send 34 = .ok (.imul, 1) := by decide +kernel
theorem dX0_send_35 : decode cX0_send 35 = .ok (.istore 7, 2) := by decide +kernel
theorem dX0_send_37 : decode cX0_send 37 = .ok (.aload_n 0, 1) := by decide +kernel
theorem dX0_send_38 : decode cX0_send 38 = .ok (.getfield 22, 3) := by decide +kernel
theorem dX0_send_41 : decode cX0_send 41 = .ok (.iload 7, 2) := by decide +kernel
theorem dX0_send_43 : decode cX0_send 43 = .ok (.iconst 0, 1) := by decide +kernel
theorem dX0_send_44 : decode cX0_send 44 = .ok (.iadd, 1) := by decide +kernel
theorem dX0_send_45 : decode cX0_send 45 = .ok (.iload_n 1, 1) := by decide +kernel
theorem dX0_send_46 : decode cX0_send 46 = .ok (.iastore, 1) := by decide +kernel
theorem dX0_send_47 : decode cX0_send 47 = .ok (.aload_n 0, 1) := by decide +kernel
theorem dX0_send_48 : decode cX0_send 48 = .ok (.getfield 22, 3) := by decide +kernel
theorem dX0_send_51 : decode cX0_send 51 = .ok (.iload 7, 2) := by decide +kernel
theorem dX0_send_53 : decode cX0_send 53 = .ok (.iconst 1, 1) := by decide +kernel
theorem dX0_send_54 : decode cX0_send 54 = .ok (.iadd, 1) := by decide +kernel
theorem dX0_send_55 : decode cX0_send 55 = .ok (.iload_n 2, 1) := by decide +kernel
theorem dX0_send_56 : decode cX0_send 56 = .ok (.iastore, 1) := by decide +kernel
theorem dX0_send_57 : decode cX0_send 57 = .ok (.aload_n 0, 1) := by decide +kernel
theorem dX0_send_58 : decode cX0_send 58 = .ok (.getfield 22, 3) := by decide +kernel
theorem dX0_send_61 : decode cX0_send 61 = .ok (.iload 7, 2) := by decide +kernel
theorem dX0_send_63 : decode cX0_send 63 = .ok (.iconst 2, 1) := by decide +kernel
theorem dX0_send_64 : decode cX0_send 64 = .ok (.iadd, 1) := by decide +kernel
theorem dX0_send_65 : decode cX0_send 65 = .ok (.iload_n 3, 1) := by decide +kernel
theorem dX0_send_66 : decode cX0_send 66 = .ok (.iastore, 1) := by decide +kernel
theorem dX0_send_67 : decode cX0_send 67 = .ok (.aload_n 0, 1) := by decide +kernel
theorem dX0_send_68 : decode cX0_send 68 = .ok (.getfield 22, 3) := by decide +kernel
theorem dX0_send_71 : decode cX0_send 71 = .ok (.iload 7, 2) := by decide +kernel
theorem dX0_send_73 : decode cX0_send 73 = .ok (.iconst 3, 1) := by decide +kernel
theorem dX0_send_74 : decode cX0_send 74 = .ok (.iadd, 1) := by decide +kernel
theorem dX0_send_75 : decode cX0_send 75 = .ok (.iload 4, 2) := by decide +kernel
theorem dX0_send_77 : decode cX0_send 77 = .ok (.iastore, 1) := by decide +kernel
theorem dX0_send_78 : decode cX0_send 78 = .ok (.aload_n 0, 1) := by decide +kernel
theorem dX0_send_79 : decode cX0_send 79 = .ok (.getfield 22, 3) := by decide +kernel
theorem dX0_send_82 : decode cX0_send 82 = .ok (.iload 7, 2) := by decide +kernel
theorem dX0_send_84 : decode cX0_send 84 = .ok (.iconst 4, 1) := by decide +kernel
theorem dX0_send_85 : decode cX0_send 85 = .ok (.iadd, 1) := by decide +kernel
theorem dX0_send_86 : decode cX0_send 86 = .ok (.iload 5, 2) := by decide +kernel
theorem dX0_send_88 : decode cX0_send 88 = .ok (.iastore, 1) := by decide +kernel
theorem dX0_send_89 : decode cX0_send 89 = .ok (.aload_n 0, 1) := by decide +kernel
theorem dX0_send_90 : decode cX0_send 90 = .ok (.getfield 22, 3) := by decide +kernel
theorem dX0_send_93 : decode cX0_send 93 = .ok (.iload 7, 2) := by decide +kernel
theorem dX0_send_95 : decode cX0_send 95 = .ok (.iconst 5, 1) := by decide +kernel
theorem dX0_send_96 : decode cX0_send 96 = .ok (.iadd, 1) := by decide +kernel
theorem dX0_send_97 : decode cX0_send 97 = .ok (.iload 6, 2) := by decide +kernel
theorem dX0_send_99 : decode cX0_send 99 = .ok (.iastore, 1) := by decide +kernel
theorem dX0_send_100 : decode cX0_send 100 = .ok (.aload_n 0, 1) := by decide +kernel
theorem dX0_send_101 : decode cX0_send 101 = .ok (.dup, 1) := by decide +kernel
theorem dX0_send_102 : decode cX0_send 102 = .ok (.getfield 25, 3) := by decide +kernel
theorem dX0_send_105 : decode cX0_send 105 = .ok (.iconst 1, 1) := by decide +kernel
theorem dX0_send_106 : decode cX0_send 106 = .ok (.iadd, 1) := by decide +kernel
theorem dX0_send_107 : decode cX0_send 107 = .ok (.putfield 25, 3) := by decide +kernel
theorem dX0_send_110 : decode cX0_send 110 = .ok (.aload_n 0, 1) := by decide +kernel
theorem dX0_send_111 : decode cX0_send 111 = .ok (.getfield 28, 3) := by decide +kernel
theorem dX0_send_114 : decode cX0_send 114 = .ok (.iload_n 2, 1) := by decide +kernel
theorem dX0_send_115 : decode cX0_send 115 = .ok (.dup2, 1) := by decide +kernel
theorem dX0_send_116 : decode cX0_send 116 = .ok (.iaload, 1) := by decide +kernel
theorem dX0_send_117 : decode cX0_send 117 = .ok (.iconst 1, 1) := by decide +kernel
theorem dX0_send_118 : decode cX0_send 118 = .ok (.iadd, 1) := by decide +kernel
theorem dX0_send_119 : decode cX0_send 119 = .ok (.iastore, 1) := by decide +kernel
theorem dX0_send_120 : decode cX0_send 120 = .ok (.aload_n 0, 1) := by decide +kernel
theorem dX0_send_121 : decode cX0_send 121 = .ok (.getfield 28, 3) := by decide +kernel
theorem dX0_send_124 : decode cX0_send 124 = .ok (.iconst 0, 1) := by decide +kernel
theorem dX0_send_125 : decode cX0_send 125 = .ok (.dup2, 1) := by decide +kernel
theorem dX0_send_126 : decode cX0_send 126 = .ok (.iaload, 1) := by decide +kernel
theorem dX0_send_127 : decode cX0_send 127 = .ok (.iconst 1, 1) := by decide +kernel
theorem dX0_send_128 : decode cX0_send 128 = .ok (.iadd, 1) := by decide +kernel
theorem dX0_send_129 : decode cX0_send 129 = .ok (.iastore, 1) := by decide +kernel
theorem dX0_send_130 : decode cX0_send 130 = .ok (.return_, 1) := by decide +kernel
theorem dX1_init_0 : decode cX1_init 0 = .ok (.aload_n 0, 1) := by decide +kernel
theorem dX1_init_1 : decode cX1_init 1 = .ok (.invokespecial 3, 3) := by decide +kernel
theorem dX1_init_4 : decode cX1_init 4 = .ok (.aload_n 0, 1) := by decide +kernel
theorem dX1_init_5 : decode cX1_init 5 = .ok (.iconst 3, 1) := by decide +kernel
theorem dX1_init_6 : decode cX1_init 6 = .ok (.anewarray 9, 3) := by decide +kernel
theorem dX1_init_9 : decode cX1_init 9 = .ok (.putfield 11, 3) := by decide +kernel
theorem dX1_init_12 : decode cX1_init 12 = .ok (.aload_n 0, 1) := by decide +kernel
theorem dX1_init_13 : decode cX1_init 13 = .ok (.iconst 0, 1) := by decide +kernel
theorem dX1_init_14 : decode cX1_init 14 = .ok (.putfield 17, 3) := by decide +kernel
theorem dX1_init_17 : decode cX1_init 17 = .ok (.aload_n 0, 1) := by decide +kernel
theorem dX1_init_18 : decode cX1_init 18 = .ok (.iconst 0, 1) := by decide +kernel
theorem dX1_init_19 : decode cX1_init 19 = .ok (.putfield 21, 3) := by decide +kernel
theorem dX1_init_22 : decode cX1_init 22 = .ok (.aload_n 0, 1) := by decide +kernel
theorem dX1_init_23 : decode cX1_init 23 = .ok (.iconst 0, 1) := by decide +kernel
theorem dX1_init_24 : decode cX1_init 24 = .ok (.putfield 24, 3) := by decide +kernel
theorem dX1_init_27 : decode cX1_init 27 = .ok (.aload_n 0, 1) := by decide +kernel
theorem dX1_init_28 : decode cX1_init 28 = .ok (.iconst 0, 1) := by decide +kernel
theorem dX1_init_29 : decode cX1_init 29 = .ok (.putfield 27, 3) := by decide +kernel
theorem dX1_init_32 : decode cX1_init 32 = .ok (.aload_n 0, 1) := by decide +kernel
theorem dX1_init_33 : decode cX1_init 33 = .ok (.iconst 0, 1) := by decide +kernel
theorem dX1_init_34 : decode cX1_init 34 = .ok (.putfield 30, 3) := by decide +kernel
theorem dX1_init_37 : decode cX1_init 37 = .ok (.iconst 0, 1) := by decide +kernel
theorem dX1_init_38 : decode cX1_init 38 = .ok (.istore_n 2, 1) := by decide +kernel
theorem dX1_init_39 : decode cX1_init 39 = .ok (.iload_n 2, 1) := by decide +kernel
theorem dX1_init_40 : decode cX1_init 40 = .ok (.iconst 3, 1) := by decide +kernel
theorem dX1_init_41 : decode cX1_init 41 = .ok (.if_icmp .ge 23, 3) := by decide +kernel
theorem dX1_init_44 : decode cX1_init 44 = .ok (.aload_n 0, 1) := by decide +kernel
theorem dX1_init_45 : decode cX1_init 45 = .ok (.getfield 11, 3) := by decide +kernel
theorem dX1_init_48 : decode cX1_init 48 = .ok (.iload_n 2, 1) := by decide +kernel
theorem dX1_init_49 : decode cX1_init 49 = .ok (.new 9, 3) := by decide +kernel
theorem dX1_init_52 : decode cX1_init 52 = .ok (.dup, 1) := by decide +kernel
theorem dX1_init_53 : decode cX1_init 53 = .ok (.aload_n 1, 1) := by decide +kernel
theorem dX1_init_54 : decode cX1_init 54 = .ok (.invokespecial 33, 3) := by decide +kernel
theorem dX1_init_57 : decode cX1_init 57 = .ok (.aastore, 1) := by decide +kernel
theorem dX1_init_58 : decode cX1_init 58 = .ok (.iinc 2 1, 3) := by decide +kernel
theorem dX1_init_61 : decode cX1_init 61 = .ok (.goto (-22), 3) := by decide +kernel
theorem dX1_init_64 : decode cX1_init 64 = .ok (.return_, 1) := by decide +kernel
theorem dX1_reset_0 : decode cX1_reset 0 = .ok (.aload_n 0, 1) := by decide +kernel
theorem dX1_reset_1 : decode cX1_reset 1 = .ok (.aload_n 1, 1) := by decide +kernel
theorem dX1_reset_2 : decode cX1_reset 2 = .ok (.iconst 0, 1) := by decide +kernel
theorem dX1_reset_3 : decode cX1_reset 3 = .ok (.invokevirtual 36, 3) := by decide +kernel
theorem dX1_reset_6 : decode cX1_reset 6 = .ok (.putfield 17, 3) := by decide +kernel
theorem dX1_reset_9 : decode cX1_reset 9 = .ok (.aload_n 0, 1) := by decide +kernel
theorem dX1_reset_10 : decode cX1_reset 10 = .ok (.iconst 0, 1) := by decide +kernel
theorem dX1_reset_11 : decode cX1_reset 11 = .ok (.putfield 21, 3) := by decide +kernel
theorem dX1_reset_14 : decode cX1_reset 14 = .ok (.aload_n 0, 1) := by decide +kernel
theorem dX1_reset_15 : decode cX1_reset 15 = .ok (.iconst 0, 1) := by decide +kernel
theorem dX1_reset_16 : decode cX1_reset 16 = .ok (.putfield 24, 3) := by decide +kernel
theorem dX1_reset_19 : decode cX1_reset 19 = .ok (.aload_n 0, 1) := by decide +kernel
theorem dX1_reset_20 : decode cX1_reset 20 = .ok (.iconst 0, 1) := by decide +kernel
theorem dX1_reset_21 : decode cX1_reset 21 = .ok (.putfield 27, 3) := by decide +kernel
theorem dX1_reset_24 : decode cX1_reset 24 = .ok (.aload_n 0, 1) := by decide +kernel
theorem dX1_reset_25 : decode cX1_reset 25 = .ok (.iconst 0, 1) := by decide +kernel
theorem dX1_reset_26 : decode cX1_reset 26 = .ok (.putfield 30, 3) := by decide +kernel
theorem dX1_reset_29 : decode cX1_reset 29 = .ok (.return_, 1) := by decide +kernel
theorem dX1_explore_0 : decode cX1_explore 0 = .ok (.iload_n 2, 1) := by decide +kernel
theorem dX1_explore_1 : decode cX1_explore 1 = .ok (.iconst 1, 1) := by decide +kernel
theorem dX1_explore_2 : decode cX1_explore 2 = .ok (.if_icmp .lt 19, 3) := by decide +kernel
theorem dX1_explore_5 : decode cX1_explore 5 = .ok (.iload_n 2, 1) := by decide +kernel
theorem dX1_explore_6 : decode cX1_explore 6 = .ok (.iconst 3, 1) := by decide +kernel
theorem dX1_explore_7 : decode cX1_explore 7 = .ok (.if_icmp .gt 14, 3) := by decide +kernel
theorem dX1_explore_10 : decode cX1_explore 10 = .ok (.aload_n 0, 1) := by decide +kernel
theorem dX1_explore_11 : decode cX1_explore 11 = .ok (.getfield 11, 3) := by decide +kernel
theorem dX1_explore_14 : decode cX1_explore 14 = .ok (.iload_n 2, 1) := by decide +kernel
theorem dX1_explore_15 : decode cX1_explore 15 = .ok (.iconst 1, 1) := by decide +kernel
theorem dX1_explore_16 : decode cX1_explore 16 = .ok (.isub, 1) := by decide +kernel
theorem dX1_explore_17 : decode cX1_explore 17 = .ok (.aaload, 1) := by decide +kernel
theorem dX1_explore_18 : decode cX1_explore 18 = .ok (.goto 4, 3) := by decide +kernel
theorem dX1_explore_21 : decode cX1_explore 21 = .ok (.aconst_null, 1) := by decide +kernel
theorem dX1_explore_22 : decode cX1_explore 22 = .ok (.astore_n 3, 1) := by decide +kernel
theorem dX1_explore_23 : decode cX1_explore 23 = .ok (.aload_n 3, 1) := by decide +kernel
theorem dX1_explore_24 : decode cX1_explore 24 = .ok (.ifnull 10, 3) := by decide +kernel
theorem dX1_explore_27 : decode cX1_explore 27 = .ok (.aload_n 1, 1) := by decide +kernel
theorem dX1_explore_28 : decode cX1_explore 28 = .ok (.getfield 40, 3) := by decide +kernel
theorem dX1_explore_31 : decode cX1_explore 31 = .ok (.ifCond .ne 9, 3) := by decide +kernel
theorem dX1_explore_34 : decode cX1_explore 34 = .ok (.aload_n 0, 1) := by decide +kernel
theorem dX1_explore_35 : decode cX1_explore 35 = .ok (.aload_n 1, 1) := by decide +kernel
theorem dX1_explore_36 : decode cX1_explore 36 = .ok (.invokevirtual 43, 3) := by decide +kernel
theorem dX1_explore_39 : decode cX1_explore 39 = .ok (.return_, 1) := by decide +kernel
theorem dX1_explore_40 : decode cX1_explore 40 = .ok (.iconst 0, 1) := by decide +kernel
theorem dX1_explore_41 : decode cX1_explore 41 = .ok (.istore 4, 2) := by decide +kernel
theorem dX1_explore_43 : decode cX1_explore 43 = .ok (.iload 4, 2) := by decide +kernel
theorem dX1_explore_45 : decode cX1_explore 45 = .ok (.bipush 12, 2) := by decide +kernel
theorem dX1_explore_47 : decode cX1_explore 47 = .ok (.if_icmp .ge 38, 3) := by decide +kernel
theorem dX1_explore_50 : decode cX1_explore 50 = .ok (.aload_n 1, 1) := by decide +kernel
theorem dX1_explore_51 : decode cX1_explore 51 = .ok (.iload 4, 2) := by decide +kernel
theorem dX1_explore_53 : decode cX1_explore 53 = .ok (.invokevirtual 47, 3) := by decide +kernel
theorem dX1_explore_56 : decode cX1_explore 56 = .ok (.ifCond .eq 23, 3) := by decide +kernel
theorem dX1_explore_59 : decode cX1_explore 59 = .ok (.aload_n 3, 1) := by decide +kernel
theorem dX1_explore_60 : decode cX1_explore 60 = .ok (.aload_n 1, 1) := by decide +kernel
theorem dX1_explore_61 : decode cX1_explore 61 = .ok (.invokevirtual 51, 3) := by decide +kernel
theorem dX1_explore_64 : decode cX1_explore 64 = .ok (.aload_n 3, 1) := by decide +kernel
theorem dX1_explore_65 : decode cX1_explore 65 = .ok (.iload 4, 2) := by decide +kernel
theorem dX1_explore_67 : decode cX1_explore 67 = .ok (.invokevirtual 54, 3) := by decide +kernel
theorem dX1_explore_70 : decode cX1_explore 70 = .ok (.pop, 1) := by decide +kernel
theorem dX1_explore_71 : decode cX1_explore 71 = .ok (.aload_n 0, 1) := by decide +kernel
theorem dX1_explore_72 : decode cX1_explore 72 = .ok (.aload_n 3, 1) := by decide +kernel
theorem dX1_explore_73 : decode cX1_explore 73 = .ok (.iload_n 2, 1) := by decide +kernel
theorem dX1_explore_74 : decode cX1_explore 74 = .ok (.iconst 1, 1) := by decide +kernel
theorem dX1_explore_75 : decode cX1_explore 75 = .ok (.isub, 1) := by decide +kernel
theorem dX1_explore_76 : decode cX1_explore 76 = .ok (.invokevirtual 57, 3) := by decide +kernel
theorem dX1_explore_79 : decode cX1_explore 79 = .ok (.iinc 4 1, 3) := by decide +kernel
theorem dX1_explore_82 : decode cX1_explore 82 = .ok (.goto (-39), 3) := by decide +kernel
theorem dX1_explore_85 : decode cX1_explore 85 = .ok (.return_, 1) := by decide +kernel
theorem dX1_note_0 : decode cX1_note 0 = .ok (.aload_n 1, 1) := by decide +kernel
theorem dX1_note_1 : decode cX1_note 1 = .ok (.iconst 0, 1) := by decide +kernel
theorem dX1_note_2 : decode cX1_note 2 = .ok (.invokevirtual 36, 3) := by decide +kernel
theorem dX1_note_5 : decode cX1_note 5 = .ok (.aload_n 0, 1) := by decide +kernel
theorem dX1_note_6 : decode cX1_note 6 = .ok (.getfield 17, 3) := by decide +kernel
theorem dX1_note_9 : decode cX1_note 9 = .ok (.isub, 1) := by decide +kernel
theorem dX1_note_10 : decode cX1_note 10 = .ok (.istore_n 2, 1) := by decide +kernel
theorem dX1_note_11 : decode cX1_note 11 = .ok (.aload_n 0, 1) := by decide +kernel
theorem dX1_note_12 : decode cX1_note 12 = .ok (.aload_n 0, 1) := by decide +kernel
theorem dX1_note_13 : decode cX1_note 13 = .ok (.getfield 30, 3) := by decide +kernel
theorem dX1_note_16 : decode cX1_note 16 = .ok (.ifCond .ne 7, 3) := by decide +kernel
theorem dX1_note_19 : decode cX1_note 19 = .ok (.iload_n 2, 1) := by decide +kernel
theorem dX1_note_20 : decode cX1_note 20 = .ok (.goto 11, 3) := by decide +kernel
theorem dX1_note_23 : decode cX1_note 23 = .ok (.aload_n 0, 1) := by decide +kernel
theorem dX1_note_24 : decode cX1_note 24 = .ok (.getfield 21, 3) := by decide +kernel
theorem dX1_note_27 : decode cX1_note 27 = .ok (.iload_n 2, 1) := by decide +kernel
theorem dX1_note_28 : decode cX1_note 28 = .ok (.invokestatic 61, 3) := by decide +kernel
theorem dX1_note_31 : decode cX1_note 31 = .ok (.putfield 21, 3) := by decide +kernel
theorem dX1_note_34 : decode cX1_note 34 = .ok (.aload_n 0, 1) := by decide +kernel
theorem dX1_note_35 : decode cX1_note 35 = .ok (.aload_n 0, 1) := by decide +kernel
theorem dX1_note_36 : decode cX1_note 36 = .ok (.getfield 24, 3) := by decide +kernel
theorem dX1_note_39 : decode cX1_note 39 = .ok (.iload_n 2, 1) := by decide +kernel
theorem dX1_note_40 : decode cX1_note 40 = .ok (.invokestatic 67, 3) := by decide +kernel
theorem dX1_note_43 : decode cX1_note 43 = .ok (.putfield 24, 3) := by decide +kernel
theorem dX1_note_46 : decode cX1_note 46 = .ok (.aload_n 0, 1) := by decide +kernel
theorem dX1_note_47 : decode cX1_note 47 = .ok (.dup, 1) := by decide +kernel
theorem dX1_note_48 : decode cX1_note 48 = .ok (.getfield 27, 3) := by decide +kernel
theorem dX1_note_51 : decode cX1_note 51 = .ok (.aload_n 1, 1) := by decide +kernel
theorem dX1_note_52 : decode cX1_note 52 = .ok (.invokevirtual 70, 3) := by decide +kernel
theorem dX1_note_55 : decode cX1_note 55 = .ok (.iconst (-1), 1) := by decide +kernel
theorem dX1_note_56 : decode cX1_note 56 = .ok (.if_icmp .eq 7, 3) := by decide +kernel
theorem dX1_note_59 : decode cX1_note 59 = .ok (.iconst 1, 1) := by decide +kernel
theorem dX1_note_60 : decode cX1_note 60 = .ok (.goto 4, 3) := by decide +kernel
theorem dX1_note_63 : decode cX1_note 63 = .ok (.iconst 0, 1) := by decide +kernel
theorem dX1_note_64 : decode cX1_note 64 = .ok (.iadd, 1) := by decide +kernel
theorem dX1_note_65 : decode cX1_note 65 = .ok (.putfield 27, 3) := by decide +kernel
theorem dX1_note_68 : decode cX1_note 68 = .ok (.aload_n 0, 1) := by decide +kernel
theorem dX1_note_69 : decode cX1_note 69 = .ok (.dup, 1) := by decide +kernel
theorem dX1_note_70 : decode cX1_note 70 = .ok (.getfield 30, 3) := by decide +kernel
theorem dX1_note_73 : decode cX1_note 73 = .ok (.iconst 1, 1) := by decide +kernel
theorem dX1_note_74 : decode cX1_note 74 = .ok (.iadd, 1) := by decide +kernel
theorem dX1_note_75 : decode cX1_note 75 = .ok (.putfield 30, 3) := by decide +kernel
theorem dX1_note_78 : decode cX1_note 78 = .ok (.return_, 1) := by decide +kernel
theorem dX2_init_0 : decode cX2_init 0 = .ok (.aload_n 0, 1) := by decide +kernel
theorem dX2_init_1 : decode cX2_init 1 = .ok (.invokespecial 3, 3) := by decide +kernel
theorem dX2_init_4 : decode cX2_init 4 = .ok (.aload_n 0, 1) := by decide +kernel
theorem dX2_init_5 : decode cX2_init 5 = .ok (.bipush 20, 2) := by decide +kernel
theorem dX2_init_7 : decode cX2_init 7 = .ok (.anewarray 9, 3) := by decide +kernel
theorem dX2_init_10 : decode cX2_init 10 = .ok (.putfield 11, 3) := by decide +kernel
theorem dX2_init_13 : decode cX2_init 13 = .ok (.aload_n 0, 1) := by decide +kernel
theorem dX2_init_14 : decode cX2_init 14 = .ok (.iconst 0, 1) := by decide +kernel
theorem dX2_init_15 : decode cX2_init 15 = .ok (.putfield 17, 3) := by decide +kernel
theorem dX2_init_18 : decode cX2_init 18 = .ok (.aload_n 0, 1) := by decide +kernel
theorem dX2_init_19 : decode cX2_init 19 = .ok (.iconst 0, 1) := by decide +kernel
theorem dX2_init_20 : decode cX2_init 20 = .ok (.putfield 21, 3) := by decide +kernel
theorem dX2_init_23 : decode cX2_init 23 = .ok (.iconst 0, 1) := by decide +kernel
theorem dX2_init_24 : decode cX2_init 24 = .ok (.istore_n 2, 1) := by decide +kernel
theorem dX2_init_25 : decode cX2_init 25 = .ok (.iload_n 2, 1) := by decide +kernel
theorem dX2_init_26 : decode cX2_init 26 = .ok (.bipush 20, 2) := by decide +kernel
theorem dX2_init_28 : decode cX2_init 28 = .ok (.if_icmp .ge 23, 3) := by decide +kernel
theorem dX2_init_31 : decode cX2_init 31 = .ok (.aload_n 0, 1) := by decide +kernel
theorem dX2_init_32 : decode cX2_init 32 = .ok (.getfield 11, 3) := by decide +kernel
theorem dX2_init_35 : decode cX2_init 35 = .ok (.iload_n 2, 1) := by decide +kernel
theorem dX2_init_36 : decode cX2_init 36 = .ok (.new 9, 3) := by decide +kernel
theorem dX2_init_39 : decode cX2_init 39 = .ok (.dup, 1) := by decide +kernel
theorem dX2_init_40 : decode cX2_init 40 = .ok (.aload_n 1, 1) := by decide +kernel
theorem dX2_init_41 : decode cX2_init 41 = .ok (.invokespecial 24, 3) := by decide +kernel
theorem dX2_init_44 : decode cX2_init 44 = .ok (.aastore, 1) := by decide +kernel
theorem dX2_init_45 : decode cX2_init 45 = .ok (.iinc 2 1, 3) := by decide +kernel
theorem dX2_init_48 : decode cX2_init 48 = .ok (.goto (-23), 3) := by decide +kernel
theorem dX2_init_51 : decode cX2_init 51 = .ok (.return_, 1) := by decide +kernel
theorem dX2_forget_0 : decode cX2_forget 0 = .ok (.aload_n 0, 1) := by decide +kernel
theorem dX2_forget_1 : decode cX2_forget 1 = .ok (.iconst 0, 1) := by decide +kernel
theorem dX2_forget_2 : decode cX2_forget 2 = .ok (.putfield 21, 3) := by decide +kernel
theorem dX2_forget_5 : decode cX2_forget 5 = .ok (.return_, 1) := by decide +kernel
theorem dX2_keep_0 : decode cX2_keep 0 = .ok (.aload_n 0, 1) := by decide +kernel
theorem dX2_keep_1 : decode cX2_keep 1 = .ok (.aload_n 0, 1) := by decide +kernel
theorem dX2_keep_2 : decode cX2_keep 2 = .ok (.getfield 17, 3) := by decide +kernel
theorem dX2_keep_5 : decode cX2_keep 5 = .ok (.invokevirtual 27, 3) := by decide +kernel
theorem dX2_keep_8 : decode cX2_keep 8 = .ok (.astore_n 2, 1) := by decide +kernel
theorem dX2_keep_9 : decode cX2_keep 9 = .ok (.aload_n 2, 1) := by decide +kernel
theorem dX2_keep_10 : decode cX2_keep 10 = .ok (.ifnonnull 4, 3) := by decide +kernel
theorem dX2_keep_13 : decode cX2_keep 13 = .ok (.return_, 1) := by decide +kernel
theorem dX2_keep_14 : decode cX2_keep 14 = .ok (.aload_n 2, 1) := by decide +kernel
theorem dX2_keep_15 : decode cX2_keep 15 = .ok (.aload_n 1, 1) := by decide +kernel
theorem dX2_keep_16 : decode cX2_keep 16 = .ok (.invokevirtual 31, 3) := by decide +kernel
theorem dX2_keep_19 : decode cX2_keep 19 = .ok (.aload_n 0, 1) := by decide +kernel
theorem dX2_keep_20 : decode cX2_keep 20 = .ok (.aload_n 0, 1) := by decide +kernel
end
section
theorem dX2_keep_21 : decode cX2_keep 21 = .ok (.getfield 17, 3) := by decide +kernel
theorem dX2_keep_24 : decode cX2_keep 24 = .ok (.iconst 1, 1) := by decide +kernel
theorem dX2_keep_25 : decode cX2_keep 25 = .ok (.iadd, 1) := by decide +kernel
theorem dX2_keep_26 : decode cX2_keep 26 = .ok (.bipush 20, 2) := by decide +kernel
theorem dX2_keep_28 : decode cX2_keep 28 = .ok (.if_icmp .ge 12, 3) := by decide +kernel
theorem dX2_keep_31 : decode cX2_keep 31 = .ok (.aload_n 0, 1) := by decide +kernel
theorem dX2_keep_32 : decode cX2_keep 32 = .ok (.getfield 17, 3) := by decide +kernel
theorem dX2_keep_35 : decode cX2_keep 35 = .ok (.iconst 1, 1) := by decide +kernel
theorem dX2_keep_36 : decode cX2_keep 36 = .ok (.iadd, 1) := by decide +kernel
theorem dX2_keep_37 : decode cX2_keep 37 = .ok (.goto 4, 3) := by decide +kernel
theorem dX2_keep_40 : decode cX2_keep 40 = .ok (.iconst 0, 1) := by decide +kernel
theorem dX2_keep_41 : decode cX2_keep 41 = .ok (.putfield 17, 3) := by decide +kernel
theorem dX2_keep_44 : decode cX2_keep 44 = .ok (.aload_n 0, 1) := by decide +kernel
theorem dX2_keep_45 : decode cX2_keep 45 = .ok (.aload_n 0, 1) := by decide +kernel
theorem dX2_keep_46 : decode cX2_keep 46 = .ok (.getfield 21, 3) := by decide +kernel
theorem dX2_keep_49 : decode cX2_keep 49 = .ok (.bipush 20, 2) := by decide +kernel
theorem dX2_keep_51 : decode cX2_keep 51 = .ok (.if_icmp .ge 12, 3) := by decide +kernel
theorem dX2_keep_54 : decode cX2_keep 54 = .ok (.aload_n 0, 1) := by decide +kernel
theorem dX2_keep_55 : decode cX2_keep 55 = .ok (.getfield 21, 3) := by decide +kernel
theorem dX2_keep_58 : decode cX2_keep 58 = .ok (.iconst 1, 1) := by decide +kernel
theorem dX2_keep_59 : decode cX2_keep 59 = .ok (.iadd, 1) := by decide +kernel
theorem dX2_keep_60 : decode cX2_keep 60 = .ok (.goto 5, 3) := by decide +kernel
theorem dX2_keep_63 : decode cX2_keep 63 = .ok (.bipush 20, 2) := by decide +kernel
theorem dX2_keep_65 : decode cX2_keep 65 = .ok (.putfield 21, 3) := by decide +kernel
theorem dX2_keep_68 : decode cX2_keep 68 = .ok (.return_, 1) := by decide +kernel
theorem dX2_giveBack_0 : decode cX2_giveBack 0 = .ok (.aload_n 0, 1) := by decide +kernel
theorem dX2_giveBack_1 : decode cX2_giveBack 1 = .ok (.getfield 17, 3) := by decide +kernel
theorem dX2_giveBack_4 : decode cX2_giveBack 4 = .ok (.ifCond .le 12, 3) := by decide +kernel
theorem dX2_giveBack_7 : decode cX2_giveBack 7 = .ok (.aload_n 0, 1) := by decide +kernel
theorem dX2_giveBack_8 : decode cX2_giveBack 8 = .ok (.getfield 17, 3) := by decide +kernel
theorem dX2_giveBack_11 : decode cX2_giveBack 11 = .ok (.iconst 1, 1) := by decide +kernel
theorem dX2_giveBack_12 : decode cX2_giveBack 12 = .ok (.isub, 1) := by decide +kernel
theorem dX2_giveBack_13 : decode cX2_giveBack 13 = .ok (.goto 5, 3) := by decide +kernel
theorem dX2_giveBack_16 : decode cX2_giveBack 16 = .ok (.bipush 19, 2) := by decide +kernel
theorem dX2_giveBack_18 : decode cX2_giveBack 18 = .ok (.istore_n 2, 1) := by decide +kernel
theorem dX2_giveBack_19 : decode cX2_giveBack 19 = .ok (.aload_n 0, 1) := by decide +kernel
theorem dX2_giveBack_20 : decode cX2_giveBack 20 = .ok (.iload_n 2, 1) := by decide +kernel
theorem dX2_giveBack_21 : decode cX2_giveBack 21 = .ok (.invokevirtual 27, 3) := by decide +kernel
theorem dX2_giveBack_24 : decode cX2_giveBack 24 = .ok (.astore_n 3, 1) := by decide +kernel
theorem dX2_giveBack_25 : decode cX2_giveBack 25 = .ok (.aload_n 0, 1) := by decide +kernel
theorem dX2_giveBack_26 : decode cX2_giveBack 26 = .ok (.getfield 21, 3) := by decide +kernel
theorem dX2_giveBack_29 : decode cX2_giveBack 29 = .ok (.ifCond .eq 7, 3) := by decide +kernel
theorem dX2_giveBack_32 : decode cX2_giveBack 32 = .ok (.aload_n 3, 1) := by decide +kernel
theorem dX2_giveBack_33 : decode cX2_giveBack 33 = .ok (.ifnonnull 5, 3) := by decide +kernel
theorem dX2_giveBack_36 : decode cX2_giveBack 36 = .ok (.iconst 0, 1) := by decide +kernel
theorem dX2_giveBack_37 : decode cX2_giveBack 37 = .ok (.ireturn, 1) := by decide +kernel
theorem dX2_giveBack_38 : decode cX2_giveBack 38 = .ok (.aload_n 1, 1) := by decide +kernel
theorem dX2_giveBack_39 : decode cX2_giveBack 39 = .ok (.aload_n 3, 1) := by decide +kernel
theorem dX2_giveBack_40 : decode cX2_giveBack 40 = .ok (.invokevirtual 31, 3) := by decide +kernel
theorem dX2_giveBack_43 : decode cX2_giveBack 43 = .ok (.aload_n 0, 1) := by decide +kernel
theorem dX2_giveBack_44 : decode cX2_giveBack 44 = .ok (.iload_n 2, 1) := by decide +kernel
theorem dX2_giveBack_45 : decode cX2_giveBack 45 = .ok (.putfield 17, 3) := by decide +kernel
theorem dX2_giveBack_48 : decode cX2_giveBack 48 = .ok (.aload_n 0, 1) := by decide +kernel
theorem dX2_giveBack_49 : decode cX2_giveBack 49 = .ok (.dup, 1) := by decide +kernel
theorem dX2_giveBack_50 : decode cX2_giveBack 50 = .ok (.getfield 21, 3) := by decide +kernel
theorem dX2_giveBack_53 : decode cX2_giveBack 53 = .ok (.iconst 1, 1) := by decide +kernel
theorem dX2_giveBack_54 : decode cX2_giveBack 54 = .ok (.isub, 1) := by decide +kernel
theorem dX2_giveBack_55 : decode cX2_giveBack 55 = .ok (.putfield 21, 3) := by decide +kernel
theorem dX2_giveBack_58 : decode cX2_giveBack 58 = .ok (.iconst 1, 1) := by decide +kernel
theorem dX2_giveBack_59 : decode cX2_giveBack 59 = .ok (.ireturn, 1) := by decide +kernel
theorem dX2_keptAt_0 : decode cX2_keptAt 0 = .ok (.iload_n 1, 1) := by decide +kernel
theorem dX2_keptAt_1 : decode cX2_keptAt 1 = .ok (.ifCond .lt 18, 3) := by decide +kernel
theorem dX2_keptAt_4 : decode cX2_keptAt 4 = .ok (.iload_n 1, 1) := by decide +kernel
theorem dX2_keptAt_5 : decode cX2_keptAt 5 = .ok (.bipush 20, 2) := by decide +kernel
theorem dX2_keptAt_7 : decode cX2_keptAt 7 = .ok (.if_icmp .ge 12, 3) := by decide +kernel
theorem dX2_keptAt_10 : decode cX2_keptAt 10 = .ok (.aload_n 0, 1) := by decide +kernel
theorem dX2_keptAt_11 : decode cX2_keptAt 11 = .ok (.getfield 11, 3) := by decide +kernel
theorem dX2_keptAt_14 : decode cX2_keptAt 14 = .ok (.iload_n 1, 1) := by decide +kernel
theorem dX2_keptAt_15 : decode cX2_keptAt 15 = .ok (.aaload, 1) := by decide +kernel
theorem dX2_keptAt_16 : decode cX2_keptAt 16 = .ok (.goto 4, 3) := by decide +kernel
theorem dX2_keptAt_19 : decode cX2_keptAt 19 = .ok (.aconst_null, 1) := by decide +kernel
theorem dX2_keptAt_20 : decode cX2_keptAt 20 = .ok (.areturn, 1) := by decide +kernel
theorem dX3_init_0 : decode cX3_init 0 = .ok (.aload_n 0, 1) := by decide +kernel
theorem dX3_init_1 : decode cX3_init 1 = .ok (.invokespecial 3, 3) := by decide +kernel
theorem dX3_init_4 : decode cX3_init 4 = .ok (.aload_n 0, 1) := by decide +kernel
theorem dX3_init_5 : decode cX3_init 5 = .ok (.iconst 0, 1) := by decide +kernel
theorem dX3_init_6 : decode cX3_init 6 = .ok (.putfield 9, 3) := by decide +kernel
theorem dX3_init_9 : decode cX3_init 9 = .ok (.aload_n 0, 1) := by decide +kernel
theorem dX3_init_10 : decode cX3_init 10 = .ok (.bipush 6, 2) := by decide +kernel
theorem dX3_init_12 : decode cX3_init 12 = .ok (.newarray .int, 2) := by decide +kernel
theorem dX3_init_14 : decode cX3_init 14 = .ok (.putfield 15, 3) := by decide +kernel
theorem dX3_init_17 : decode cX3_init 17 = .ok (.aload_n 0, 1) := by decide +kernel
theorem dX3_init_18 : decode cX3_init 18 = .ok (.bipush 6, 2) := by decide +kernel
theorem dX3_init_20 : decode cX3_init 20 = .ok (.newarray .int, 2) := by decide +kernel
theorem dX3_init_22 : decode cX3_init 22 = .ok (.putfield 19, 3) := by decide +kernel
theorem dX3_init_25 : decode cX3_init 25 = .ok (.return_, 1) := by decide +kernel
theorem dX3_copyFrom_0 : decode cX3_copyFrom 0 = .ok (.aload_n 0, 1) := by decide +kernel
theorem dX3_copyFrom_1 : decode cX3_copyFrom 1 = .ok (.aload_n 1, 1) := by decide +kernel
theorem dX3_copyFrom_2 : decode cX3_copyFrom 2 = .ok (.getfield 9, 3) := by decide +kernel
theorem dX3_copyFrom_5 : decode cX3_copyFrom 5 = .ok (.putfield 9, 3) := by decide +kernel
theorem dX3_copyFrom_8 : decode cX3_copyFrom 8 = .ok (.aload_n 1, 1) := by decide +kernel
theorem dX3_copyFrom_9 : decode cX3_copyFrom 9 = .ok (.getfield 15, 3) := by decide +kernel
theorem dX3_copyFrom_12 : decode cX3_copyFrom 12 = .ok (.iconst 0, 1) := by decide +kernel
theorem dX3_copyFrom_13 : decode cX3_copyFrom 13 = .ok (.aload_n 0, 1) := by decide +kernel
theorem dX3_copyFrom_14 : decode cX3_copyFrom 14 = .ok (.getfield 15, 3) := by decide +kernel
theorem dX3_copyFrom_17 : decode cX3_copyFrom 17 = .ok (.iconst 0, 1) := by decide +kernel
theorem dX3_copyFrom_18 : decode cX3_copyFrom 18 = .ok (.bipush 6, 2) := by decide +kernel
theorem dX3_copyFrom_20 : decode cX3_copyFrom 20 = .ok (.invokestatic 22, 3) := by decide +kernel
theorem dX3_copyFrom_23 : decode cX3_copyFrom 23 = .ok (.aload_n 1, 1) := by decide +kernel
theorem dX3_copyFrom_24 : decode cX3_copyFrom 24 = .ok (.getfield 19, 3) := by decide +kernel
theorem dX3_copyFrom_27 : decode cX3_copyFrom 27 = .ok (.iconst 0, 1) := by decide +kernel
theorem dX3_copyFrom_28 : decode cX3_copyFrom 28 = .ok (.aload_n 0, 1) := by decide +kernel
theorem dX3_copyFrom_29 : decode cX3_copyFrom 29 = .ok (.getfield 19, 3) := by decide +kernel
theorem dX3_copyFrom_32 : decode cX3_copyFrom 32 = .ok (.iconst 0, 1) := by decide +kernel
theorem dX3_copyFrom_33 : decode cX3_copyFrom 33 = .ok (.bipush 6, 2) := by decide +kernel
theorem dX3_copyFrom_35 : decode cX3_copyFrom 35 = .ok (.invokestatic 22, 3) := by decide +kernel
theorem dX3_copyFrom_38 : decode cX3_copyFrom 38 = .ok (.return_, 1) := by decide +kernel
theorem dX3_isFull_0 : decode cX3_isFull 0 = .ok (.aload_n 0, 1) := by decide +kernel
theorem dX3_isFull_1 : decode cX3_isFull 1 = .ok (.getfield 9, 3) := by decide +kernel
theorem dX3_isFull_4 : decode cX3_isFull 4 = .ok (.bipush 6, 2) := by decide +kernel
theorem dX3_isFull_6 : decode cX3_isFull 6 = .ok (.if_icmp .lt 7, 3) := by decide +kernel
theorem dX3_isFull_9 : decode cX3_isFull 9 = .ok (.iconst 1, 1) := by decide +kernel
theorem dX3_isFull_10 : decode cX3_isFull 10 = .ok (.goto 4, 3) := by decide +kernel
theorem dX3_isFull_13 : decode cX3_isFull 13 = .ok (.iconst 0, 1) := by decide +kernel
theorem dX3_isFull_14 : decode cX3_isFull 14 = .ok (.ireturn, 1) := by decide +kernel
theorem dX3_addName_0 : decode cX3_addName 0 = .ok (.aload_n 0, 1) := by decide +kernel
theorem dX3_addName_1 : decode cX3_addName 1 = .ok (.getfield 9, 3) := by decide +kernel
theorem dX3_addName_4 : decode cX3_addName 4 = .ok (.ifCond .lt 32, 3) := by decide +kernel
theorem dX3_addName_7 : decode cX3_addName 7 = .ok (.aload_n 0, 1) := by decide +kernel
theorem dX3_addName_8 : decode cX3_addName 8 = .ok (.getfield 9, 3) := by decide +kernel
theorem dX3_addName_11 : decode cX3_addName 11 = .ok (.bipush 6, 2) := by decide +kernel
theorem dX3_addName_13 : decode cX3_addName 13 = .ok (.if_icmp .ge 23, 3) := by decide +kernel
theorem dX3_addName_16 : decode cX3_addName 16 = .ok (.aload_n 0, 1) := by decide +kernel
theorem dX3_addName_17 : decode cX3_addName 17 = .ok (.getfield 15, 3) := by decide +kernel
theorem dX3_addName_20 : decode cX3_addName 20 = .ok (.aload_n 0, 1) := by decide +kernel
theorem dX3_addName_21 : decode cX3_addName 21 = .ok (.getfield 9, 3) := by decide +kernel
theorem dX3_addName_24 : decode cX3_addName 24 = .ok (.iload_n 1, 1) := by decide +kernel
theorem dX3_addName_25 : decode cX3_addName 25 = .ok (.iastore, 1) := by decide +kernel
theorem dX3_addName_26 : decode cX3_addName 26 = .ok (.aload_n 0, 1) := by decide +kernel
theorem dX3_addName_27 : decode cX3_addName 27 = .ok (.dup, 1) := by decide +kernel
theorem dX3_addName_28 : decode cX3_addName 28 = .ok (.getfield 9, 3) := by decide +kernel
theorem dX3_addName_31 : decode cX3_addName 31 = .ok (.iconst 1, 1) := by decide +kernel
theorem dX3_addName_32 : decode cX3_addName 32 = .ok (.iadd, 1) := by decide +kernel
theorem dX3_addName_33 : decode cX3_addName 33 = .ok (.putfield 9, 3) := by decide +kernel
theorem dX3_addName_36 : decode cX3_addName 36 = .ok (.return_, 1) := by decide +kernel
theorem dX3_setLastSense_0 : decode cX3_setLastSense 0 = .ok (.aload_n 0, 1) := by decide +kernel
theorem dX3_setLastSense_1 : decode cX3_setLastSense 1 = .ok (.getfield 9, 3) := by decide +kernel
theorem dX3_setLastSense_4 : decode cX3_setLastSense 4 = .ok (.iconst 1, 1) := by decide +kernel
theorem dX3_setLastSense_5 : decode cX3_setLastSense 5 = .ok (.if_icmp .lt 24, 3) := by decide +kernel
theorem dX3_setLastSense_8 : decode cX3_setLastSense 8 = .ok (.aload_n 0, 1) := by decide +kernel
theorem dX3_setLastSense_9 : decode cX3_setLastSense 9 = .ok (.getfield 9, 3) := by decide +kernel
theorem dX3_setLastSense_12 : decode cX3_setLastSense 12 = .ok (.bipush 6, 2) := by decide +kernel
theorem dX3_setLastSense_14 : decode cX3_setLastSense 14 = .ok (.if_icmp .gt 15, 3) := by decide +kernel
theorem dX3_setLastSense_17 : decode cX3_setLastSense 17 = .ok (.aload_n 0, 1) := by decide +kernel
theorem dX3_setLastSense_18 : decode cX3_setLastSense 18 = .ok (.getfield 19, 3) := by decide +kernel
theorem dX3_setLastSense_21 : decode cX3_setLastSense 21 = .ok (.aload_n 0, 1) := by decide +kernel
theorem dX3_setLastSense_22 : decode cX3_setLastSense 22 = .ok (.getfield 9, 3) := by decide +kernel
theorem dX3_setLastSense_25 : decode cX3_setLastSense 25 = .ok (.iconst 1, 1) := by decide +kernel
theorem dX3_setLastSense_26 : decode cX3_setLastSense 26 = .ok (.isub, 1) := by decide +kernel
theorem dX3_setLastSense_27 : decode cX3_setLastSense 27 = .ok (.iload_n 1, 1) := by decide +kernel
theorem dX3_setLastSense_28 : decode cX3_setLastSense 28 = .ok (.iastore, 1) := by decide +kernel
theorem dX3_setLastSense_29 : decode cX3_setLastSense 29 = .ok (.return_, 1) := by decide +kernel
theorem dX3_hasContender_0 : decode cX3_hasContender 0 = .ok (.iload_n 1, 1) := by decide +kernel
theorem dX3_hasContender_1 : decode cX3_hasContender 1 = .ok (.iconst 0, 1) := by decide +kernel
theorem dX3_hasContender_2 : decode cX3_hasContender 2 = .ok (.aload_n 0, 1) := by decide +kernel
theorem dX3_hasContender_3 : decode cX3_hasContender 3 = .ok (.getfield 9, 3) := by decide +kernel
theorem dX3_hasContender_6 : decode cX3_hasContender 6 = .ok (.iconst 1, 1) := by decide +kernel
theorem dX3_hasContender_7 : decode cX3_hasContender 7 = .ok (.isub, 1) := by decide +kernel
theorem dX3_hasContender_8 : decode cX3_hasContender 8 = .ok (.invokestatic 28, 3) := by decide +kernel
theorem dX3_hasContender_11 : decode cX3_hasContender 11 = .ok (.ireturn, 1) := by decide +kernel
theorem dX3_hasLink_0 : decode cX3_hasLink 0 = .ok (.iload_n 1, 1) := by decide +kernel
theorem dX3_hasLink_1 : decode cX3_hasLink 1 = .ok (.iconst 0, 1) := by decide +kernel
theorem dX3_hasLink_2 : decode cX3_hasLink 2 = .ok (.iconst 2, 1) := by decide +kernel
theorem dX3_hasLink_3 : decode cX3_hasLink 3 = .ok (.aload_n 0, 1) := by decide +kernel
theorem dX3_hasLink_4 : decode cX3_hasLink 4 = .ok (.getfield 9, 3) := by decide +kernel
theorem dX3_hasLink_7 : decode cX3_hasLink 7 = .ok (.imul, 1) := by decide +kernel
theorem dX3_hasLink_8 : decode cX3_hasLink 8 = .ok (.iconst 1, 1) := by decide +kernel
theorem dX3_hasLink_9 : decode cX3_hasLink 9 = .ok (.isub, 1) := by decide +kernel
theorem dX3_hasLink_10 : decode cX3_hasLink 10 = .ok (.invokestatic 28, 3) := by decide +kernel
theorem dX3_hasLink_13 : decode cX3_hasLink 13 = .ok (.ireturn, 1) := by decide +kernel
theorem dX3_hasName_0 : decode cX3_hasName 0 = .ok (.iconst 0, 1) := by decide +kernel
theorem dX3_hasName_1 : decode cX3_hasName 1 = .ok (.istore_n 2, 1) := by decide +kernel
theorem dX3_hasName_2 : decode cX3_hasName 2 = .ok (.iload_n 2, 1) := by decide +kernel
theorem dX3_hasName_3 : decode cX3_hasName 3 = .ok (.aload_n 0, 1) := by decide +kernel
theorem dX3_hasName_4 : decode cX3_hasName 4 = .ok (.getfield 9, 3) := by decide +kernel
theorem dX3_hasName_7 : decode cX3_hasName 7 = .ok (.if_icmp .ge 27, 3) := by decide +kernel
theorem dX3_hasName_10 : decode cX3_hasName 10 = .ok (.iload_n 2, 1) := by decide +kernel
theorem dX3_hasName_11 : decode cX3_hasName 11 = .ok (.bipush 6, 2) := by decide +kernel
theorem dX3_hasName_13 : decode cX3_hasName 13 = .ok (.if_icmp .ge 21, 3) := by decide +kernel
theorem dX3_hasName_16 : decode cX3_hasName 16 = .ok (.aload_n 0, 1) := by decide +kernel
theorem dX3_hasName_17 : decode cX3_hasName 17 = .ok (.getfield 15, 3) := by decide +kernel
theorem dX3_hasName_20 : decode cX3_hasName 20 = .ok (.iload_n 2, 1) := by decide +kernel
theorem dX3_hasName_21 : decode cX3_hasName 21 = .ok (.iaload, 1) := by decide +kernel
theorem dX3_hasName_22 : decode cX3_hasName 22 = .ok (.iload_n 1, 1) := by decide +kernel
theorem dX3_hasName_23 : decode cX3_hasName 23 = .ok (.if_icmp .ne 5, 3) := by decide +kernel
theorem dX3_hasName_26 : decode cX3_hasName 26 = .ok (.iconst 1, 1) := by decide +kernel
theorem dX3_hasName_27 : decode cX3_hasName 27 = .ok (.ireturn, 1) := by decide +kernel
theorem dX3_hasName_28 : decode cX3_hasName 28 = .ok (.iinc 2 1, 3) := by decide +kernel
theorem dX3_hasName_31 : decode cX3_hasName 31 = .ok (.goto (-29), 3) := by decide +kernel
theorem dX3_hasName_34 : decode cX3_hasName 34 = .ok (.iconst 0, 1) := by decide +kernel
theorem dX3_hasName_35 : decode cX3_hasName 35 = .ok (.ireturn, 1) := by decide +kernel
theorem dX3_sensesAgree_0 : decode cX3_sensesAgree 0 = .ok (.iconst 1, 1) := by decide +kernel
theorem dX3_sensesAgree_1 : decode cX3_sensesAgree 1 = .ok (.istore_n 1, 1) := by decide +kernel
theorem dX3_sensesAgree_2 : decode cX3_sensesAgree 2 = .ok (.iload_n 1, 1) := by decide +kernel
theorem dX3_sensesAgree_3 : decode cX3_sensesAgree 3 = .ok (.aload_n 0, 1) := by decide +kernel
theorem dX3_sensesAgree_4 : decode cX3_sensesAgree 4 = .ok (.getfield 9, 3) := by decide +kernel
theorem dX3_sensesAgree_7 : decode cX3_sensesAgree 7 = .ok (.if_icmp .ge 32, 3) := by decide +kernel
theorem dX3_sensesAgree_10 : decode cX3_sensesAgree 10 = .ok (.iload_n 1, 1) := by decide +kernel
theorem dX3_sensesAgree_11 : decode cX3_sensesAgree 11 = .ok (.bipush 6, 2) := by decide +kernel
theorem dX3_sensesAgree_13 : decode cX3_sensesAgree 13 = .ok (.if_icmp .ge 26, 3) := by decide +kernel
theorem dX3_sensesAgree_16 : decode cX3_sensesAgree 16 = .ok (.aload_n 0, 1) := by decide +kernel
theorem dX3_sensesAgree_17 : decode cX3_sensesAgree 17 = .ok (.getfield 19, 3) := by decide +kernel
theorem dX3_sensesAgree_20 : decode cX3_sensesAgree 20 = .ok (.iload_n 1, 1) := by decide +kernel
theorem dX3_sensesAgree_21 : decode cX3_sensesAgree 21 = .ok (.iaload, 1) := by decide +kernel
theorem dX3_sensesAgree_22 : decode cX3_sensesAgree 22 = .ok (.aload_n 0, 1) := by decide +kernel
theorem dX3_sensesAgree_23 : decode cX3_sensesAgree 23 = .ok (.getfield 19, 3) := by decide +kernel
theorem dX3_sensesAgree_26 : decode cX3_sensesAgree 26 = .ok (.iconst 0, 1) := by decide +kernel
theorem dX3_sensesAgree_27 : decode cX3_sensesAgree 27 = .ok (.iaload, 1) := by decide +kernel
theorem dX3_sensesAgree_28 : decode cX3_sensesAgree 28 = .ok (.if_icmp .eq 5, 3) := by decide +kernel
theorem dX3_sensesAgree_31 : decode cX3_sensesAgree 31 = .ok (.iconst 0, 1) := by decide +kernel
theorem dX3_sensesAgree_32 : decode cX3_sensesAgree 32 = .ok (.ireturn, 1) := by decide +kernel
theorem dX3_sensesAgree_33 : decode cX3_sensesAgree 33 = .ok (.iinc 1 1, 3) := by decide +kernel
theorem dX3_sensesAgree_36 : decode cX3_sensesAgree 36 = .ok (.goto (-34), 3) := by decide +kernel
theorem dX3_sensesAgree_39 : decode cX3_sensesAgree 39 = .ok (.iconst 1, 1) := by decide +kernel
theorem dX3_sensesAgree_40 : decode cX3_sensesAgree 40 = .ok (.ireturn, 1) := by decide +kernel
theorem dX3_nameOf_0 : decode cX3_nameOf 0 = .ok (.iload_n 1, 1) := by decide +kernel
theorem dX3_nameOf_1 : decode cX3_nameOf 1 = .ok (.iconst 0, 1) := by decide +kernel
theorem dX3_nameOf_2 : decode cX3_nameOf 2 = .ok (.iconst 5, 1) := by decide +kernel
theorem dX3_nameOf_3 : decode cX3_nameOf 3 = .ok (.invokestatic 28, 3) := by decide +kernel
theorem dX3_nameOf_6 : decode cX3_nameOf 6 = .ok (.ifCond .eq 12, 3) := by decide +kernel
theorem dX3_nameOf_9 : decode cX3_nameOf 9 = .ok (.aload_n 0, 1) := by decide +kernel
theorem dX3_nameOf_10 : decode cX3_nameOf 10 = .ok (.getfield 15, 3) := by decide +kernel
theorem dX3_nameOf_13 : decode cX3_nameOf 13 = .ok (.iload_n 1, 1) := by decide +kernel
theorem dX3_nameOf_14 : decode cX3_nameOf 14 = .ok (.iaload, 1) := by decide +kernel
theorem dX3_nameOf_15 : decode cX3_nameOf 15 = .ok (.goto 4, 3) := by decide +kernel
theorem dX3_nameOf_18 : decode cX3_nameOf 18 = .ok (.iconst (-1), 1) := by decide +kernel
theorem dX3_nameOf_19 : decode cX3_nameOf 19 = .ok (.ireturn, 1) := by decide +kernel
theorem dX3_senseOf_0 : decode cX3_senseOf 0 = .ok (.iload_n 1, 1) := by decide +kernel
theorem dX3_senseOf_1 : decode cX3_senseOf 1 = .ok (.iconst 0, 1) := by decide +kernel
theorem dX3_senseOf_2 : decode cX3_senseOf 2 = .ok (.iconst 5, 1) := by decide +kernel
theorem dX3_senseOf_3 : decode cX3_senseOf 3 = .ok (.invokestatic 28, 3) := by decide +kernel
theorem dX3_senseOf_6 : decode cX3_senseOf 6 = .ok (.ifCond .eq 12, 3) := by decide +kernel
theorem dX3_senseOf_9 : decode cX3_senseOf 9 = .ok (.aload_n 0, 1) := by decide +kernel
theorem dX3_senseOf_10 : decode cX3_senseOf 10 = .ok (.getfield 19, 3) := by decide +kernel
theorem dX3_senseOf_13 : decode cX3_senseOf 13 = .ok (.iload_n 1, 1) := by decide +kernel
theorem dX3_senseOf_14 : decode cX3_senseOf 14 = .ok (.iaload, 1) := by decide +kernel
theorem dX3_senseOf_15 : decode cX3_senseOf 15 = .ok (.goto 4, 3) := by decide +kernel
theorem dX3_senseOf_18 : decode cX3_senseOf 18 = .ok (.iconst 0, 1) := by decide +kernel
theorem dX3_senseOf_19 : decode cX3_senseOf 19 = .ok (.ireturn, 1) := by decide +kernel
theorem dX3_receiverOf_0 : decode cX3_receiverOf 0 = .ok (.iload_n 1, 1) := by decide +kernel
theorem dX3_receiverOf_1 : decode cX3_receiverOf 1 = .ok (.iconst 2, 1) := by decide +kernel
theorem dX3_receiverOf_2 : decode cX3_receiverOf 2 = .ok (.idiv, 1) := by decide +kernel
theorem dX3_receiverOf_3 : decode cX3_receiverOf 3 = .ok (.istore_n 2, 1) := by decide +kernel
theorem dX3_receiverOf_4 : decode cX3_receiverOf 4 = .ok (.iload_n 1, 1) := by decide +kernel
theorem dX3_receiverOf_5 : decode cX3_receiverOf 5 = .ok (.invokestatic 32, 3) := by decide +kernel
theorem dX3_receiverOf_8 : decode cX3_receiverOf 8 = .ok (.ifCond .ne 21, 3) := by decide +kernel
theorem dX3_receiverOf_11 : decode cX3_receiverOf 11 = .ok (.iload_n 2, 1) := by decide +kernel
theorem dX3_receiverOf_12 : decode cX3_receiverOf 12 = .ok (.iconst 1, 1) := by decide +kernel
theorem dX3_receiverOf_13 : decode cX3_receiverOf 13 = .ok (.iadd, 1) := by decide +kernel
theorem dX3_receiverOf_14 : decode cX3_receiverOf 14 = .ok (.aload_n 0, 1) := by decide +kernel
theorem dX3_receiverOf_15 : decode cX3_receiverOf 15 = .ok (.getfield 9, 3) := by decide +kernel
theorem dX3_receiverOf_18 : decode cX3_receiverOf 18 = .ok (.if_icmp .ge 9, 3) := by decide +kernel
theorem dX3_receiverOf_21 : decode cX3_receiverOf 21 = .ok (.iload_n 2, 1) := by decide +kernel
theorem dX3_receiverOf_22 : decode cX3_receiverOf 22 = .ok (.iconst 1, 1) := by decide +kernel
theorem dX3_receiverOf_23 : decode cX3_receiverOf 23 = .ok (.iadd, 1) := by decide +kernel
theorem dX3_receiverOf_24 : decode cX3_receiverOf 24 = .ok (.goto 4, 3) := by decide +kernel
theorem dX3_receiverOf_27 : decode cX3_receiverOf 27 = .ok (.iconst 0, 1) := by decide +kernel
theorem dX3_receiverOf_28 : decode cX3_receiverOf 28 = .ok (.ireturn, 1) := by decide +kernel
theorem dX3_receiverOf_29 : decode cX3_receiverOf 29 = .ok (.iload_n 2, 1) := by decide +kernel
theorem dX3_receiverOf_30 : decode cX3_receiverOf 30 = .ok (.ifCond .le 9, 3) := by decide +kernel
theorem dX3_receiverOf_33 : decode cX3_receiverOf 33 = .ok (.iload_n 2, 1) := by decide +kernel
theorem dX3_receiverOf_34 : decode cX3_receiverOf 34 = .ok (.iconst 1, 1) := by decide +kernel
theorem dX3_receiverOf_35 : decode cX3_receiverOf 35 = .ok (.isub, 1) := by decide +kernel
theorem dX3_receiverOf_36 : decode cX3_receiverOf 36 = .ok (.goto 9, 3) := by decide +kernel
theorem dX3_receiverOf_39 : decode cX3_receiverOf 39 = .ok (.aload_n 0, 1) := by decide +kernel
theorem dX3_receiverOf_40 : decode cX3_receiverOf 40 = .ok (.getfield 9, 3) := by decide +kernel
theorem dX3_receiverOf_43 : decode cX3_receiverOf 43 = .ok (.iconst 1, 1) := by decide +kernel
theorem dX3_receiverOf_44 : decode cX3_receiverOf 44 = .ok (.isub, 1) := by decide +kernel
theorem dX3_receiverOf_45 : decode cX3_receiverOf 45 = .ok (.ireturn, 1) := by decide +kernel
theorem dX3_directionOf_0 : decode cX3_directionOf 0 = .ok (.iload_n 0, 1) := by decide +kernel
theorem dX3_directionOf_1 : decode cX3_directionOf 1 = .ok (.iconst 1, 1) := by decide +kernel
theorem dX3_directionOf_2 : decode cX3_directionOf 2 = .ok (.iand, 1) := by decide +kernel
theorem dX3_directionOf_3 : decode cX3_directionOf 3 = .ok (.ireturn, 1) := by decide +kernel
theorem dX3_lineFrom_0 : decode cX3_lineFrom 0 = .ok (.iconst 2, 1) := by decide +kernel
theorem dX3_lineFrom_1 : decode cX3_lineFrom 1 = .ok (.iload_n 0, 1) := by decide +kernel
theorem dX3_lineFrom_2 : decode cX3_lineFrom 2 = .ok (.imul, 1) := by decide +kernel
theorem dX3_lineFrom_3 : decode cX3_lineFrom 3 = .ok (.iload_n 1, 1) := by decide +kernel
theorem dX3_lineFrom_4 : decode cX3_lineFrom 4 = .ok (.iadd, 1) := by decide +kernel
theorem dX3_lineFrom_5 : decode cX3_lineFrom 5 = .ok (.ireturn, 1) := by decide +kernel
theorem dX4_init_0 : decode cX4_init 0 = .ok (.aload_n 0, 1) := by decide +kernel
theorem dX4_init_1 : decode cX4_init 1 = .ok (.invokespecial 3, 3) := by decide +kernel
theorem dX4_init_4 : decode cX4_init 4 = .ok (.aload_n 0, 1) := by decide +kernel
theorem dX4_init_5 : decode cX4_init 5 = .ok (.bipush 40, 2) := by decide +kernel
theorem dX4_init_7 : decode cX4_init 7 = .ok (.newarray .int, 2) := by decide +kernel
theorem dX4_init_9 : decode cX4_init 9 = .ok (.putfield 9, 3) := by decide +kernel
theorem dX4_init_12 : decode cX4_init 12 = .ok (.aload_n 0, 1) := by decide +kernel
theorem dX4_init_13 : decode cX4_init 13 = .ok (.iconst 0, 1) := by decide +kernel
theorem dX4_init_14 : decode cX4_init 14 = .ok (.putfield 15, 3) := by decide +kernel
theorem dX4_init_17 : decode cX4_init 17 = .ok (.aload_n 0, 1) := by decide +kernel
theorem dX4_init_18 : decode cX4_init 18 = .ok (.iconst 0, 1) := by decide +kernel
theorem dX4_init_19 : decode cX4_init 19 = .ok (.putfield 19, 3) := by decide +kernel
theorem dX4_init_22 : decode cX4_init 22 = .ok (.aload_n 0, 1) := by decide +kernel
theorem dX4_init_23 : decode cX4_init 23 = .ok (.iconst 0, 1) := by decide +kernel
theorem dX4_init_24 : decode cX4_init 24 = .ok (.putfield 22, 3) := by decide +kernel
theorem dX4_init_27 : decode cX4_init 27 = .ok (.aload_n 0, 1) := by decide +kernel
theorem dX4_init_28 : decode cX4_init 28 = .ok (.iconst 0, 1) := by decide +kernel
theorem dX4_init_29 : decode cX4_init 29 = .ok (.putfield 25, 3) := by decide +kernel
theorem dX4_init_32 : decode cX4_init 32 = .ok (.return_, 1) := by decide +kernel
theorem dX4_append_0 : decode cX4_append 0 = .ok (.aload_n 0, 1) := by decide +kernel
theorem dX4_append_1 : decode cX4_append 1 = .ok (.getfield 15, 3) := by decide +kernel
theorem dX4_append_4 : decode cX4_append 4 = .ok (.ifCond .lt 12, 3) := by decide +kernel
theorem dX4_append_7 : decode cX4_append 7 = .ok (.aload_n 0, 1) := by decide +kernel
theorem dX4_append_8 : decode cX4_append 8 = .ok (.getfield 15, 3) := by decide +kernel
theorem dX4_append_11 : decode cX4_append 11 = .ok (.bipush 40, 2) := by decide +kernel
theorem dX4_append_13 : decode cX4_append 13 = .ok (.if_icmp .lt 5, 3) := by decide +kernel
theorem dX4_append_16 : decode cX4_append 16 = .ok (.iconst 0, 1) := by decide +kernel
theorem dX4_append_17 : decode cX4_append 17 = .ok (.ireturn, 1) := by decide +kernel
theorem dX4_append_18 : decode cX4_append 18 = .ok (.aload_n 0, 1) := by decide +kernel
theorem dX4_append_19 : decode cX4_append 19 = .ok (.getfield 9, 3) := by decide +kernel
theorem dX4_append_22 : decode cX4_append 22 = .ok (.aload_n 0, 1) := by decide +kernel
theorem dX4_append_23 : decode cX4_append 23 = .ok (.getfield 15, 3) := by decide +kernel
theorem dX4_append_26 : decode cX4_append 26 = .ok (.iload_n 1, 1) := by decide +kernel
theorem dX4_append_27 : decode cX4_append 27 = .ok (.iastore, 1) := by decide +kernel
theorem dX4_append_28 : decode cX4_append 28 = .ok (.aload_n 0, 1) := by decide +kernel
theorem dX4_append_29 : decode cX4_append 29 = .ok (.dup, 1) := by decide +kernel
theorem dX4_append_30 : decode cX4_append 30 = .ok (.getfield 15, 3) := by decide +kernel
theorem dX4_append_33 : decode cX4_append 33 = .ok (.iconst 1, 1) := by decide +kernel
theorem dX4_append_34 : decode cX4_append 34 = .ok (.iadd, 1) := by decide +kernel
theorem dX4_append_35 : decode cX4_append 35 = .ok (.putfield 15, 3) := by decide +kernel
theorem dX4_append_38 : decode cX4_append 38 = .ok (.iconst 1, 1) := by decide +kernel
theorem dX4_append_39 : decode cX4_append 39 = .ok (.ireturn, 1) := by decide +kernel
theorem dX4_readInto_0 : decode cX4_readInto 0 = .ok (.aload_n 1, 1) := by decide +kernel
theorem dX4_readInto_1 : decode cX4_readInto 1 = .ok (.iconst 0, 1) := by decide +kernel
theorem dX4_readInto_2 : decode cX4_readInto 2 = .ok (.putfield 28, 3) := by decide +kernel
theorem dX4_readInto_5 : decode cX4_readInto 5 = .ok (.aload_n 0, 1) := by decide +kernel
theorem dX4_readInto_6 : decode cX4_readInto 6 = .ok (.iconst 0, 1) := by decide +kernel
theorem dX4_readInto_7 : decode cX4_readInto 7 = .ok (.putfield 25, 3) := by decide +kernel
theorem dX4_readInto_10 : decode cX4_readInto 10 = .ok (.iconst 0, 1) := by decide +kernel
theorem dX4_readInto_11 : decode cX4_readInto 11 = .ok (.istore_n 2, 1) := by decide +kernel
theorem dX4_readInto_12 : decode cX4_readInto 12 = .ok (.iconst 0, 1) := by decide +kernel
theorem dX4_readInto_13 : decode cX4_readInto 13 = .ok (.istore_n 3, 1) := by decide +kernel
theorem dX4_readInto_14 : decode cX4_readInto 14 = .ok (.iload_n 3, 1) := by decide +kernel
theorem dX4_readInto_15 : decode cX4_readInto 15 = .ok (.bipush 40, 2) := by decide +kernel
theorem dX4_readInto_17 : decode cX4_readInto 17 = .ok (.if_icmp .gt 112, 3) := by decide +kernel
theorem dX4_readInto_20 : decode cX4_readInto 20 = .ok (.aload_n 0, 1) := by decide +kernel
theorem dX4_readInto_21 : decode cX4_readInto 21 = .ok (.invokevirtual 33, 3) := by decide +kernel
theorem dX4_readInto_24 : decode cX4_readInto 24 = .ok (.iload_n 2, 1) := by decide +kernel
theorem dX4_readInto_25 : decode cX4_readInto 25 = .ok (.ifCond .ne 15, 3) := by decide +kernel
theorem dX4_readInto_28 : decode cX4_readInto 28 = .ok (.aload_n 1, 1) := by decide +kernel
theorem dX4_readInto_29 : decode cX4_readInto 29 = .ok (.getfield 28, 3) := by decide +kernel
theorem dX4_readInto_32 : decode cX4_readInto 32 = .ok (.iconst 2, 1) := by decide +kernel
theorem dX4_readInto_33 : decode cX4_readInto 33 = .ok (.if_icmp .lt 7, 3) := by decide +kernel
theorem dX4_readInto_36 : decode cX4_readInto 36 = .ok (.iconst 1, 1) := by decide +kernel
theorem dX4_readInto_37 : decode cX4_readInto 37 = .ok (.goto 4, 3) := by decide +kernel
theorem dX4_readInto_40 : decode cX4_readInto 40 = .ok (.iconst 0, 1) := by decide +kernel
theorem dX4_readInto_41 : decode cX4_readInto 41 = .ok (.istore 4, 2) := by decide +kernel
theorem dX4_readInto_43 : decode cX4_readInto 43 = .ok (.aload_n 0, 1) := by decide +kernel
theorem dX4_readInto_44 : decode cX4_readInto 44 = .ok (.getfield 22, 3) := by decide +kernel
theorem dX4_readInto_47 : decode cX4_readInto 47 = .ok (.aload_n 0, 1) := by decide +kernel
theorem dX4_readInto_48 : decode cX4_readInto 48 = .ok (.getfield 15, 3) := by decide +kernel
theorem dX4_readInto_51 : decode cX4_readInto 51 = .ok (.if_icmp .lt 31, 3) := by decide +kernel
theorem dX4_readInto_54 : decode cX4_readInto 54 = .ok (.aload_n 0, 1) := by decide +kernel
theorem dX4_readInto_55 : decode cX4_readInto 55 = .ok (.iload 4, 2) := by decide +kernel
theorem dX4_readInto_57 : decode cX4_readInto 57 = .ok (.ifCond .eq 7, 3) := by decide +kernel
theorem dX4_readInto_60 : decode cX4_readInto 60 = .ok (.iconst 0, 1) := by decide +kernel
theorem dX4_readInto_61 : decode cX4_readInto 61 = .ok (.goto 4, 3) := by decide +kernel
theorem dX4_readInto_64 : decode cX4_readInto 64 = .ok (.iconst 1, 1) := by decide +kernel
theorem dX4_readInto_65 : decode cX4_readInto 65 = .ok (.putfield 19, 3) := by decide +kernel
theorem dX4_readInto_68 : decode cX4_readInto 68 = .ok (.iload 4, 2) := by decide +kernel
theorem dX4_readInto_70 : decode cX4_readInto 70 = .ok (.ifCond .eq 7, 3) := by decide +kernel
theorem dX4_readInto_73 : decode cX4_readInto 73 = .ok (.iconst (-1), 1) := by decide +kernel
theorem dX4_readInto_74 : decode cX4_readInto 74 = .ok (.goto 7, 3) := by decide +kernel
theorem dX4_readInto_77 : decode cX4_readInto 77 = .ok (.aload_n 0, 1) := by decide +kernel
theorem dX4_readInto_78 : decode cX4_readInto 78 = .ok (.getfield 22, 3) := by decide +kernel
theorem dX4_readInto_81 : decode cX4_readInto 81 = .ok (.ireturn, 1) := by decide +kernel
theorem dX4_readInto_82 : decode cX4_readInto 82 = .ok (.aload_n 0, 1) := by decide +kernel
theorem dX4_readInto_83 : decode cX4_readInto 83 = .ok (.aload_n 0, 1) := by decide +kernel
theorem dX4_readInto_84 : decode cX4_readInto 84 = .ok (.iload_n 2, 1) := by decide +kernel
theorem dX4_readInto_85 : decode cX4_readInto 85 = .ok (.aload_n 1, 1) := by decide +kernel
theorem dX4_readInto_86 : decode cX4_readInto 86 = .ok (.invokevirtual 36, 3) := by decide +kernel
theorem dX4_readInto_89 : decode cX4_readInto 89 = .ok (.putfield 19, 3) := by decide +kernel
theorem dX4_readInto_92 : decode cX4_readInto 92 = .ok (.aload_n 0, 1) := by decide +kernel
theorem dX4_readInto_93 : decode cX4_readInto 93 = .ok (.getfield 19, 3) := by decide +kernel
theorem dX4_readInto_96 : decode cX4_readInto 96 = .ok (.ifCond .eq 8, 3) := by decide +kernel
theorem dX4_readInto_99 : decode cX4_readInto 99 = .ok (.aload_n 0, 1) := by decide +kernel
theorem dX4_readInto_100 : decode cX4_readInto 100 = .ok (.getfield 22, 3) := by decide +kernel
theorem dX4_readInto_103 : decode cX4_readInto 103 = .ok (.ireturn, 1) := by decide +kernel
theorem dX4_readInto_104 : decode cX4_readInto 104 = .ok (.aload_n 0, 1) := by decide +kernel
theorem dX4_readInto_105 : decode cX4_readInto 105 = .ok (.iload_n 2, 1) := by decide +kernel
theorem dX4_readInto_106 : decode cX4_readInto 106 = .ok (.aload_n 1, 1) := by decide +kernel
theorem dX4_readInto_107 : decode cX4_readInto 107 = .ok (.invokevirtual 40, 3) := by decide +kernel
theorem dX4_readInto_110 : decode cX4_readInto 110 = .ok (.iload_n 2, 1) := by decide +kernel
theorem dX4_readInto_111 : decode cX4_readInto 111 = .ok (.iconst 2, 1) := by decide +kernel
theorem dX4_readInto_112 : decode cX4_readInto 112 = .ok (.if_icmp .ne 7, 3) := by decide +kernel
theorem dX4_readInto_115 : decode cX4_readInto 115 = .ok (.iconst 0, 1) := by decide +kernel
theorem dX4_readInto_116 : decode cX4_readInto 116 = .ok (.goto 6, 3) := by decide +kernel
theorem dX4_readInto_119 : decode cX4_readInto 119 = .ok (.iload_n 2, 1) := by decide +kernel
theorem dX4_readInto_120 : decode cX4_readInto 120 = .ok (.iconst 1, 1) := by decide +kernel
theorem dX4_readInto_121 : decode cX4_readInto 121 = .ok (.iadd, 1) := by decide +kernel
theorem dX4_readInto_122 : decode cX4_readInto 122 = .ok (.istore_n 2, 1) := by decide +kernel
theorem dX4_readInto_123 : decode cX4_readInto 123 = .ok (.iinc 3 1, 3) := by decide +kernel
theorem dX4_readInto_126 : decode cX4_readInto 126 = .ok (.goto (-112), 3) := by decide +kernel
theorem dX4_readInto_129 : decode cX4_readInto 129 = .ok (.iconst (-1), 1) := by decide +kernel
theorem dX4_readInto_130 : decode cX4_readInto 130 = .ok (.ireturn, 1) := by decide +kernel
theorem dX4_findToken_0 : decode cX4_findToken 0 = .ok (.aload_n 0, 1) := by decide +kernel
theorem dX4_findToken_1 : decode cX4_findToken 1 = .ok (.aload_n 0, 1) := by decide +kernel
theorem dX4_findToken_2 : decode cX4_findToken 2 = .ok (.getfield 25, 3) := by decide +kernel
theorem dX4_findToken_5 : decode cX4_findToken 5 = .ok (.putfield 22, 3) := by decide +kernel
theorem dX4_findToken_8 : decode cX4_findToken 8 = .ok (.aload_n 0, 1) := by decide +kernel
theorem dX4_findToken_9 : decode cX4_findToken 9 = .ok (.getfield 22, 3) := by decide +kernel
theorem dX4_findToken_12 : decode cX4_findToken 12 = .ok (.aload_n 0, 1) := by decide +kernel
theorem dX4_findToken_13 : decode cX4_findToken 13 = .ok (.getfield 15, 3) := by decide +kernel
theorem dX4_findToken_16 : decode cX4_findToken 16 = .ok (.if_icmp .ge 29, 3) := by decide +kernel
theorem dX4_findToken_19 : decode cX4_findToken 19 = .ok (.aload_n 0, 1) := by decide +kernel
theorem dX4_findToken_20 : decode cX4_findToken 20 = .ok (.aload_n 0, 1) := by decide +kernel
theorem dX4_findToken_21 : decode cX4_findToken 21 = .ok (.getfield 22, 3) := by decide +kernel
theorem dX4_findToken_24 : decode cX4_findToken 24 = .ok (.invokevirtual 44, 3) := by decide +kernel
theorem dX4_findToken_27 : decode cX4_findToken 27 = .ok (.bipush 32, 2) := by decide +kernel
theorem dX4_findToken_29 : decode cX4_findToken 29 = .ok (.if_icmp .ne 16, 3) := by decide +kernel
theorem dX4_findToken_32 : decode cX4_findToken 32 = .ok (.aload_n 0, 1) := by decide +kernel
theorem dX4_findToken_33 : decode cX4_findToken 33 = .ok (.dup, 1) := by decide +kernel
theorem dX4_findToken_34 : decode cX4_findToken 34 = .ok (.getfield 22, 3) := by decide +kernel
theorem dX4_findToken_37 : decode cX4_findToken 37 = .ok (.iconst 1, 1) := by decide +kernel
theorem dX4_findToken_38 : decode cX4_findToken 38 = .ok (.iadd, 1) := by decide +kernel
theorem dX4_findToken_39 : decode cX4_findToken 39 = .ok (.putfield 22, 3) := by decide +kernel
theorem dX4_findToken_42 : decode cX4_findToken 42 = .ok (.goto (-34), 3) := by decide +kernel
theorem dX4_findToken_45 : decode cX4_findToken 45 = .ok (.aload_n 0, 1) := by decide +kernel
theorem dX4_findToken_46 : decode cX4_findToken 46 = .ok (.aload_n 0, 1) := by decide +kernel
theorem dX4_findToken_47 : decode cX4_findToken 47 = .ok (.getfield 22, 3) := by decide +kernel
theorem dX4_findToken_50 : decode cX4_findToken 50 = .ok (.putfield 25, 3) := by decide +kernel
theorem dX4_findToken_53 : decode cX4_findToken 53 = .ok (.aload_n 0, 1) := by decide +kernel
theorem dX4_findToken_54 : decode cX4_findToken 54 = .ok (.getfield 25, 3) := by decide +kernel
theorem dX4_findToken_57 : decode cX4_findToken 57 = .ok (.aload_n 0, 1) := by decide +kernel
theorem dX4_findToken_58 : decode cX4_findToken 58 = .ok (.getfield 15, 3) := by decide +kernel
theorem dX4_findToken_61 : decode cX4_findToken 61 = .ok (.if_icmp .ge 30, 3) := by decide +kernel
theorem dX4_findToken_64 : decode cX4_findToken 64 = .ok (.aload_n 0, 1) := by decide +kernel
theorem dX4_findToken_65 : decode cX4_findToken 65 = .ok (.aload_n 0, 1) := by decide +kernel
theorem dX4_findToken_66 : decode cX4_findToken 66 = .ok (.getfield 25, 3) := by decide +kernel
theorem dX4_findToken_69 : decode cX4_findToken 69 = .ok (.invokevirtual 44, 3) := by decide +kernel
theorem dX4_findToken_72 : decode cX4_findToken 72 = .ok (.invokestatic 48, 3) := by decide +kernel
theorem dX4_findToken_75 : decode cX4_findToken 75 = .ok (.ifCond .eq 16, 3) := by decide +kernel
theorem dX4_findToken_78 : decode cX4_findToken 78 = .ok (.aload_n 0, 1) := by decide +kernel
theorem dX4_findToken_79 : decode cX4_findToken 79 = .ok (.dup, 1) := by decide +kernel
theorem dX4_findToken_80 : decode cX4_findToken 80 = .ok (.getfield 25, 3) := by decide +kernel
theorem dX4_findToken_83 : decode cX4_findToken 83 = .ok (.iconst 1, 1) := by decide +kernel
theorem dX4_findToken_84 : decode cX4_findToken 84 = .ok (.iadd, 1) := by decide +kernel
theorem dX4_findToken_85 : decode cX4_findToken 85 = .ok (.putfield 25, 3) := by decide +kernel
theorem dX4_findToken_88 : decode cX4_findToken 88 = .ok (.goto (-35), 3) := by decide +kernel
theorem dX4_findToken_91 : decode cX4_findToken 91 = .ok (.aload_n 0, 1) := by decide +kernel
theorem dX4_findToken_92 : decode cX4_findToken 92 = .ok (.getfield 25, 3) := by decide +kernel
theorem dX4_findToken_95 : decode cX4_findToken 95 = .ok (.aload_n 0, 1) := by decide +kernel
theorem dX4_findToken_96 : decode cX4_findToken 96 = .ok (.getfield 22, 3) := by decide +kernel
theorem dX4_findToken_99 : decode cX4_findToken 99 = .ok (.if_icmp .ne 24, 3) := by decide +kernel
theorem dX4_findToken_102 : decode cX4_findToken 102 = .ok (.aload_n 0, 1) := by decide +kernel
theorem dX4_findToken_103 : decode cX4_findToken 103 = .ok (.getfield 22, 3) := by decide +kernel
theorem dX4_findToken_106 : decode cX4_findToken 106 = .ok (.aload_n 0, 1) := by decide +kernel
theorem dX4_findToken_107 : decode cX4_findToken 107 = .ok (.getfield 15, 3) := by decide +kernel
theorem dX4_findToken_110 : decode cX4_findToken 110 = .ok (.if_icmp .ge 13, 3) := by decide +kernel
theorem dX4_findToken_113 : decode cX4_findToken 113 = .ok (.aload_n 0, 1) := by decide +kernel
theorem dX4_findToken_114 : decode cX4_findToken 114 = .ok (.dup, 1) := by decide +kernel
theorem dX4_findToken_115 : decode cX4_findToken 115 = .ok (.getfield 25, 3) := by decide +kernel
theorem dX4_findToken_118 : decode cX4_findToken 118 = .ok (.iconst 1, 1) := by decide +kernel
theorem dX4_findToken_119 : decode cX4_findToken 119 = .ok (.iadd, 1) := by decide +kernel
theorem dX4_findToken_120 : decode cX4_findToken 120 = .ok (.putfield 25, 3) := by decide +kernel
theorem dX4_findToken_123 : decode cX4_findToken 123 = .ok (.return_, 1) := by decide +kernel
theorem dX4_faultOfToken_0 : decode cX4_faultOfToken 0 = .ok (.aload_n 0, 1) := by decide +kernel
theorem dX4_faultOfToken_1 : decode cX4_faultOfToken 1 = .ok (.aload_n 0, 1) := by decide +kernel
theorem dX4_faultOfToken_2 : decode cX4_faultOfToken 2 = .ok (.getfield 22, 3) := by decide +kernel
theorem dX4_faultOfToken_5 : decode cX4_faultOfToken 5 = .ok (.invokevirtual 44, 3) := by decide +kernel
theorem dX4_faultOfToken_8 : decode cX4_faultOfToken 8 = .ok (.istore_n 3, 1) := by decide +kernel
theorem dX4_faultOfToken_9 : decode cX4_faultOfToken 9 = .ok (.iload_n 1, 1) := by decide +kernel
theorem dX4_faultOfToken_10 : decode cX4_faultOfToken 10 = .ok (.lookupswitch 61 #[(0, 26), (1, 43)], 26) := by decide +kernel
theorem dX4_faultOfToken_36 : decode cX4_faultOfToken 36 = .ok (.iload_n 3, 1) := by decide +kernel
theorem dX4_faultOfToken_37 : decode cX4_faultOfToken 37 = .ok (.invokestatic 48, 3) := by decide +kernel
theorem dX4_faultOfToken_40 : decode cX4_faultOfToken 40 = .ok (.ifCond .eq 11, 3) := by decide +kernel
theorem dX4_faultOfToken_43 : decode cX4_faultOfToken 43 = .ok (.aload_n 0, 1) := by decide +kernel
theorem dX4_faultOfToken_44 : decode cX4_faultOfToken 44 = .ok (.aload_n 2, 1) := by decide +kernel
theorem dX4_faultOfToken_45 : decode cX4_faultOfToken 45 = .ok (.invokevirtual 52, 3) := by decide +kernel
theorem dX4_faultOfToken_48 : decode cX4_faultOfToken 48 = .ok (.goto 4, 3) := by decide +kernel
theorem dX4_faultOfToken_51 : decode cX4_faultOfToken 51 = .ok (.iconst 1, 1) := by decide +kernel
theorem dX4_faultOfToken_52 : decode cX4_faultOfToken 52 = .ok (.ireturn, 1) := by decide +kernel
theorem dX4_faultOfToken_53 : decode cX4_faultOfToken 53 = .ok (.iload_n 3, 1) := by decide +kernel
theorem dX4_faultOfToken_54 : decode cX4_faultOfToken 54 = .ok (.bipush 114, 2) := by decide +kernel
theorem dX4_faultOfToken_56 : decode cX4_faultOfToken 56 = .ok (.if_icmp .eq 9, 3) := by decide +kernel
theorem dX4_faultOfToken_59 : decode cX4_faultOfToken 59 = .ok (.iload_n 3, 1) := by decide +kernel
theorem dX4_faultOfToken_60 : decode cX4_faultOfToken 60 = .ok (.bipush 98, 2) := by decide +kernel
theorem dX4_faultOfToken_62 : decode cX4_faultOfToken 62 = .ok (.if_icmp .ne 7, 3) := by decide +kernel
theorem dX4_faultOfToken_65 : decode cX4_faultOfToken 65 = .ok (.iconst 0, 1) := by decide +kernel
theorem dX4_faultOfToken_66 : decode cX4_faultOfToken 66 = .ok (.goto 4, 3) := by decide +kernel
theorem dX4_faultOfToken_69 : decode cX4_faultOfToken 69 = .ok (.iconst 1, 1) := by decide +kernel
theorem dX4_faultOfToken_70 : decode cX4_faultOfToken 70 = .ok (.ireturn, 1) := by decide +kernel
theorem dX4_faultOfToken_71 : decode cX4_faultOfToken 71 = .ok (.iload_n 3, 1) := by decide +kernel
theorem dX4_faultOfToken_72 : decode cX4_faultOfToken 72 = .ok (.bipush 59, 2) := by decide +kernel
theorem dX4_faultOfToken_74 : decode cX4_faultOfToken 74 = .ok (.if_icmp .ne 7, 3) := by decide +kernel
theorem dX4_faultOfToken_77 : decode cX4_faultOfToken 77 = .ok (.iconst 0, 1) := by decide +kernel
theorem dX4_faultOfToken_78 : decode cX4_faultOfToken 78 = .ok (.goto 4, 3) := by decide +kernel
theorem dX4_faultOfToken_81 : decode cX4_faultOfToken 81 = .ok (.iconst 1, 1) := by decide +kernel
theorem dX4_faultOfToken_82 : decode cX4_faultOfToken 82 = .ok (.ireturn, 1) := by decide +kernel
theorem dX4_faultOfFigures_0 : decode cX4_faultOfFigures 0 = .ok (.aload_n 0, 1) := by decide +kernel
theorem dX4_faultOfFigures_1 : decode cX4_faultOfFigures 1 = .ok (.getfield 25, 3) := by decide +kernel
theorem dX4_faultOfFigures_4 : decode cX4_faultOfFigures 4 = .ok (.aload_n 0, 1) := by decide +kernel
theorem dX4_faultOfFigures_5 : decode cX4_faultOfFigures 5 = .ok (.getfield 22, 3) := by decide +kernel
theorem dX4_faultOfFigures_8 : decode cX4_faultOfFigures 8 = .ok (.isub, 1) := by decide +kernel
theorem dX4_faultOfFigures_9 : decode cX4_faultOfFigures 9 = .ok (.iconst 2, 1) := by decide +kernel
theorem dX4_faultOfFigures_10 : decode cX4_faultOfFigures 10 = .ok (.if_icmp .gt 21, 3) := by decide +kernel
theorem dX4_faultOfFigures_13 : decode cX4_faultOfFigures 13 = .ok (.aload_n 0, 1) := by decide +kernel
theorem dX4_faultOfFigures_14 : decode cX4_faultOfFigures 14 = .ok (.invokevirtual 56, 3) := by decide +kernel
theorem dX4_faultOfFigures_17 : decode cX4_faultOfFigures 17 = .ok (.ifCond .eq 14, 3) := by decide +kernel
theorem dX4_faultOfFigures_20 : decode cX4_faultOfFigures 20 = .ok (.aload_n 1, 1) := by decide +kernel
theorem dX4_faultOfFigures_21 : decode cX4_faultOfFigures 21 = .ok (.aload_n 0, 1) := by decide +kernel
theorem dX4_faultOfFigures_22 : decode cX4_faultOfFigures 22 = .ok (.invokevirtual 56, 3) := by decide +kernel
theorem dX4_faultOfFigures_25 : decode cX4_faultOfFigures 25 = .ok (.invokevirtual 60, 3) := by decide +kernel
theorem dX4_faultOfFigures_28 : decode cX4_faultOfFigures 28 = .ok (.ifCond .eq 5, 3) := by decide +kernel
theorem dX4_faultOfFigures_31 : decode cX4_faultOfFigures 31 = .ok (.iconst 2, 1) := by decide +kernel
theorem dX4_faultOfFigures_32 : decode cX4_faultOfFigures 32 = .ok (.ireturn, 1) := by decide +kernel
theorem dX4_faultOfFigures_33 : decode cX4_faultOfFigures 33 = .ok (.aload_n 1, 1) := by decide +kernel
theorem dX4_faultOfFigures_34 : decode cX4_faultOfFigures 34 = .ok (.invokevirtual 63, 3) := by decide +kernel
theorem dX4_faultOfFigures_37 : decode cX4_faultOfFigures 37 = .ok (.ifCond .eq 7, 3) := by decide +kernel
theorem dX4_faultOfFigures_40 : decode cX4_faultOfFigures 40 = .ok (.iconst 3, 1) := by decide +kernel
theorem dX4_faultOfFigures_41 : decode cX4_faultOfFigures 41 = .ok (.goto 4, 3) := by decide +kernel
theorem dX4_faultOfFigures_44 : decode cX4_faultOfFigures 44 = .ok (.iconst 0, 1) := by decide +kernel
theorem dX4_faultOfFigures_45 : decode cX4_faultOfFigures 45 = .ok (.ireturn, 1) := by decide +kernel
theorem dX4_takeToken_0 : decode cX4_takeToken 0 = .ok (.iload_n 1, 1) := by decide +kernel
theorem dX4_takeToken_1 : decode cX4_takeToken 1 = .ok (.ifCond .ne 14, 3) := by decide +kernel
theorem dX4_takeToken_4 : decode cX4_takeToken 4 = .ok (.aload_n 2, 1) := by decide +kernel
theorem dX4_takeToken_5 : decode cX4_takeToken 5 = .ok (.aload_n 0, 1) := by decide +kernel
theorem dX4_takeToken_6 : decode cX4_takeToken 6 = .ok (.invokevirtual 56, 3) := by decide +kernel
theorem dX4_takeToken_9 : decode cX4_takeToken 9 = .ok (.invokevirtual 67, 3) := by decide +kernel
theorem dX4_takeToken_12 : decode cX4_takeToken 12 = .ok (.goto 30, 3) := by decide +kernel
theorem dX4_takeToken_15 : decode cX4_takeToken 15 = .ok (.iload_n 1, 1) := by decide +kernel
theorem dX4_takeToken_16 : decode cX4_takeToken 16 = .ok (.iconst 1, 1) := by decide +kernel
theorem dX4_takeToken_17 : decode cX4_takeToken 17 = .ok (.if_icmp .ne 25, 3) := by decide +kernel
theorem dX4_takeToken_20 : decode cX4_takeToken 20 = .ok (.aload_n 2, 1) := by decide +kernel
theorem dX4_takeToken_21 : decode cX4_takeToken 21 = .ok (.aload_n 0, 1) := by decide +kernel
theorem dX4_takeToken_22 : decode cX4_takeToken 22 = .ok (.aload_n 0, 1) := by decide +kernel
theorem dX4_takeToken_23 : decode cX4_takeToken 23 = .ok (.getfield 22, 3) := by decide +kernel
theorem dX4_takeToken_26 : decode cX4_takeToken 26 = .ok (.invokevirtual 44, 3) := by decide +kernel
theorem dX4_takeToken_29 : decode cX4_takeToken 29 = .ok (.bipush 98, 2) := by decide +kernel
theorem dX4_takeToken_31 : decode cX4_takeToken 31 = .ok (.if_icmp .ne 7, 3) := by decide +kernel
theorem dX4_takeToken_34 : decode cX4_takeToken 34 = .ok (.iconst 1, 1) := by decide +kernel
theorem dX4_takeToken_35 : decode cX4_takeToken 35 = .ok (.goto 4, 3) := by decide +kernel
theorem dX4_takeToken_38 : decode cX4_takeToken 38 = .ok (.iconst 0, 1) := by decide +kernel
theorem dX4_takeToken_39 : decode cX4_takeToken 39 = .ok (.invokevirtual 71, 3) := by decide +kernel
theorem dX4_takeToken_42 : decode cX4_takeToken 42 = .ok (.return_, 1) := by decide +kernel
theorem dX4_tokenValue_0 : decode cX4_tokenValue 0 = .ok (.iconst 0, 1) := by decide +kernel
theorem dX4_tokenValue_1 : decode cX4_tokenValue 1 = .ok (.istore_n 1, 1) := by decide +kernel
theorem dX4_tokenValue_2 : decode cX4_tokenValue 2 = .ok (.aload_n 0, 1) := by decide +kernel
theorem dX4_tokenValue_3 : decode cX4_tokenValue 3 = .ok (.getfield 22, 3) := by decide +kernel
theorem dX4_tokenValue_6 : decode cX4_tokenValue 6 = .ok (.istore_n 2, 1) := by decide +kernel
theorem dX4_tokenValue_7 : decode cX4_tokenValue 7 = .ok (.iload_n 2, 1) := by decide +kernel
theorem dX4_tokenValue_8 : decode cX4_tokenValue 8 = .ok (.aload_n 0, 1) := by decide +kernel
theorem dX4_tokenValue_9 : decode cX4_tokenValue 9 = .ok (.getfield 25, 3) := by decide +kernel
theorem dX4_tokenValue_12 : decode cX4_tokenValue 12 = .ok (.if_icmp .ge 23, 3) := by decide +kernel
theorem dX4_tokenValue_15 : decode cX4_tokenValue 15 = .ok (.iload_n 1, 1) := by decide +kernel
theorem dX4_tokenValue_16 : decode cX4_tokenValue 16 = .ok (.bipush 10, 2) := by decide +kernel
theorem dX4_tokenValue_18 : decode cX4_tokenValue 18 = .ok (.imul, 1) := by decide +kernel
theorem dX4_tokenValue_19 : decode cX4_tokenValue 19 = .ok (.aload_n 0, 1) := by decide +kernel
theorem dX4_tokenValue_20 : decode cX4_tokenValue 20 = .ok (.iload_n 2, 1) := by decide +kernel
theorem dX4_tokenValue_21 : decode cX4_tokenValue 21 = .ok (.invokevirtual 44, 3) := by decide +kernel
theorem dX4_tokenValue_24 : decode cX4_tokenValue 24 = .ok (.iadd, 1) := by decide +kernel
theorem dX4_tokenValue_25 : decode cX4_tokenValue 25 = .ok (.bipush 48, 2) := by decide +kernel
theorem dX4_tokenValue_27 : decode cX4_tokenValue 27 = .ok (.isub, 1) := by decide +kernel
theorem dX4_tokenValue_28 : decode cX4_tokenValue 28 = .ok (.istore_n 1, 1) := by decide +kernel
theorem dX4_tokenValue_29 : decode cX4_tokenValue 29 = .ok (.iinc 2 1, 3) := by decide +kernel
theorem dX4_tokenValue_32 : decode cX4_tokenValue 32 = .ok (.goto (-25), 3) := by decide +kernel
theorem dX4_tokenValue_35 : decode cX4_tokenValue 35 = .ok (.iload_n 1, 1) := by decide +kernel
theorem dX4_tokenValue_36 : decode cX4_tokenValue 36 = .ok (.ireturn, 1) := by decide +kernel
theorem dX4_byteAt_0 : decode cX4_byteAt 0 = .ok (.iload_n 1, 1) := by decide +kernel
theorem dX4_byteAt_1 : decode cX4_byteAt 1 = .ok (.ifCond .lt 18, 3) := by decide +kernel
theorem dX4_byteAt_4 : decode cX4_byteAt 4 = .ok (.iload_n 1, 1) := by decide +kernel
theorem dX4_byteAt_5 : decode cX4_byteAt 5 = .ok (.bipush 40, 2) := by decide +kernel
theorem dX4_byteAt_7 : decode cX4_byteAt 7 = .ok (.if_icmp .ge 12, 3) := by decide +kernel
theorem dX4_byteAt_10 : decode cX4_byteAt 10 = .ok (.aload_n 0, 1) := by decide +kernel
theorem dX4_byteAt_11 : decode cX4_byteAt 11 = .ok (.getfield 9, 3) := by decide +kernel
theorem dX4_byteAt_14 : decode cX4_byteAt 14 = .ok (.iload_n 1, 1) := by decide +kernel
theorem dX4_byteAt_15 : decode cX4_byteAt 15 = .ok (.iaload, 1) := by decide +kernel
theorem dX4_byteAt_16 : decode cX4_byteAt 16 = .ok (.goto 4, 3) := by decide +kernel
theorem dX4_byteAt_19 : decode cX4_byteAt 19 = .ok (.iconst (-1), 1) := by decide +kernel
theorem dX4_byteAt_20 : decode cX4_byteAt 20 = .ok (.ireturn, 1) := by decide +kernel
theorem dX4_isDigit_0 : decode cX4_isDigit 0 = .ok (.iload_n 0, 1) := by decide +kernel
theorem dX4_isDigit_1 : decode cX4_isDigit 1 = .ok (.bipush 48, 2) := by decide +kernel
theorem dX4_isDigit_3 : decode cX4_isDigit 3 = .ok (.if_icmp .lt 13, 3) := by decide +kernel
theorem dX4_isDigit_6 : decode cX4_isDigit 6 = .ok (.iload_n 0, 1) := by decide +kernel
theorem dX4_isDigit_7 : decode cX4_isDigit 7 = .ok (.bipush 57, 2) := by decide +kernel
theorem dX4_isDigit_9 : decode cX4_isDigit 9 = .ok (.if_icmp .gt 7, 3) := by decide +kernel
theorem dX4_isDigit_12 : decode cX4_isDigit 12 = .ok (.iconst 1, 1) := by decide +kernel
theorem dX4_isDigit_13 : decode cX4_isDigit 13 = .ok (.goto 4, 3) := by decide +kernel
theorem dX4_isDigit_16 : decode cX4_isDigit 16 = .ok (.iconst 0, 1) := by decide +kernel
theorem dX4_isDigit_17 : decode cX4_isDigit 17 = .ok (.ireturn, 1) := by decide +kernel
theorem dX5_init_0 : decode cX5_init 0 = .ok (.aload_n 0, 1) := by decide +kernel
theorem dX5_init_1 : decode cX5_init 1 = .ok (.invokespecial 1, 3) := by decide +kernel
theorem dX5_init_4 : decode cX5_init 4 = .ok (.aload_n 0, 1) := by decide +kernel
theorem dX5_init_5 : decode cX5_init 5 = .ok (.new 7, 3) := by decide +kernel
theorem dX5_init_8 : decode cX5_init 8 = .ok (.dup, 1) := by decide +kernel
theorem dX5_init_9 : decode cX5_init 9 = .ok (.invokespecial 9, 3) := by decide +kernel
theorem dX5_init_12 : decode cX5_init 12 = .ok (.putfield 10, 3) := by decide +kernel
theorem dX5_init_15 : decode cX5_init 15 = .ok (.aload_n 0, 1) := by decide +kernel
theorem dX5_init_16 : decode cX5_init 16 = .ok (.new 16, 3) := by decide +kernel
theorem dX5_init_19 : decode cX5_init 19 = .ok (.dup, 1) := by decide +kernel
theorem dX5_init_20 : decode cX5_init 20 = .ok (.invokespecial 18, 3) := by decide +kernel
theorem dX5_init_23 : decode cX5_init 23 = .ok (.putfield 19, 3) := by decide +kernel
theorem dX5_init_26 : decode cX5_init 26 = .ok (.aload_n 0, 1) := by decide +kernel
theorem dX5_init_27 : decode cX5_init 27 = .ok (.new 16, 3) := by decide +kernel
theorem dX5_init_30 : decode cX5_init 30 = .ok (.dup, 1) := by decide +kernel
theorem dX5_init_31 : decode cX5_init 31 = .ok (.invokespecial 18, 3) := by decide +kernel
theorem dX5_init_34 : decode cX5_init 34 = .ok (.putfield 23, 3) := by decide +kernel
theorem dX5_init_37 : decode cX5_init 37 = .ok (.aload_n 0, 1) := by decide +kernel
theorem dX5_init_38 : decode cX5_init 38 = .ok (.new 26, 3) := by decide +kernel
theorem dX5_init_41 : decode cX5_init 41 = .ok (.dup, 1) := by decide +kernel
theorem dX5_init_42 : decode cX5_init 42 = .ok (.aload_n 0, 1) := by decide +kernel
theorem dX5_init_43 : decode cX5_init 43 = .ok (.getfield 19, 3) := by decide +kernel
theorem dX5_init_46 : decode cX5_init 46 = .ok (.invokespecial 28, 3) := by decide +kernel
theorem dX5_init_49 : decode cX5_init 49 = .ok (.putfield 31, 3) := by decide +kernel
theorem dX5_init_52 : decode cX5_init 52 = .ok (.aload_n 0, 1) := by decide +kernel
theorem dX5_init_53 : decode cX5_init 53 = .ok (.new 26, 3) := by decide +kernel
theorem dX5_init_56 : decode cX5_init 56 = .ok (.dup, 1) := by decide +kernel
theorem dX5_init_57 : decode cX5_init 57 = .ok (.aload_n 0, 1) := by decide +kernel
theorem dX5_init_58 : decode cX5_init 58 = .ok (.getfield 19, 3) := by decide +kernel
theorem dX5_init_61 : decode cX5_init 61 = .ok (.invokespecial 28, 3) := by decide +kernel
theorem dX5_init_64 : decode cX5_init 64 = .ok (.putfield 35, 3) := by decide +kernel
theorem dX5_init_67 : decode cX5_init 67 = .ok (.aload_n 0, 1) := by decide +kernel
theorem dX5_init_68 : decode cX5_init 68 = .ok (.new 38, 3) := by decide +kernel
theorem dX5_init_71 : decode cX5_init 71 = .ok (.dup, 1) := by decide +kernel
theorem dX5_init_72 : decode cX5_init 72 = .ok (.aload_n 0, 1) := by decide +kernel
theorem dX5_init_73 : decode cX5_init 73 = .ok (.getfield 19, 3) := by decide +kernel
theorem dX5_init_76 : decode cX5_init 76 = .ok (.invokespecial 40, 3) := by decide +kernel
theorem dX5_init_79 : decode cX5_init 79 = .ok (.putfield 41, 3) := by decide +kernel
theorem dX5_init_82 : decode cX5_init 82 = .ok (.aload_n 0, 1) := by decide +kernel
theorem dX5_init_83 : decode cX5_init 83 = .ok (.new 45, 3) := by decide +kernel
theorem dX5_init_86 : decode cX5_init 86 = .ok (.dup, 1) := by decide +kernel
theorem dX5_init_87 : decode cX5_init 87 = .ok (.aload_n 0, 1) := by decide +kernel
theorem dX5_init_88 : decode cX5_init 88 = .ok (.getfield 19, 3) := by decide +kernel
theorem dX5_init_91 : decode cX5_init 91 = .ok (.invokespecial 47, 3) := by decide +kernel
theorem dX5_init_94 : decode cX5_init 94 = .ok (.putfield 48, 3) := by decide +kernel
theorem dX5_init_97 : decode cX5_init 97 = .ok (.return_, 1) := by decide +kernel
theorem dX5_write_0 : decode cX5_write 0 = .ok (.iload_n 1, 1) := by decide +kernel
theorem dX5_write_1 : decode cX5_write 1 = .ok (.iconst 0, 1) := by decide +kernel
theorem dX5_write_2 : decode cX5_write 2 = .ok (.sipush 255, 3) := by decide +kernel
theorem dX5_write_5 : decode cX5_write 5 = .ok (.invokestatic 52, 3) := by decide +kernel
theorem dX5_write_8 : decode cX5_write 8 = .ok (.ifCond .ne 6, 3) := by decide +kernel
theorem dX5_write_11 : decode cX5_write 11 = .ok (.ldc 56, 2) := by decide +kernel
theorem dX5_write_13 : decode cX5_write 13 = .ok (.ireturn, 1) := by decide +kernel
theorem dX5_write_14 : decode cX5_write 14 = .ok (.aload_n 0, 1) := by decide +kernel
theorem dX5_write_15 : decode cX5_write 15 = .ok (.getfield 10, 3) := by decide +kernel
theorem dX5_write_18 : decode cX5_write 18 = .ok (.iload_n 1, 1) := by decide +kernel
theorem dX5_write_19 : decode cX5_write 19 = .ok (.invokevirtual 57, 3) := by decide +kernel
theorem dX5_write_22 : decode cX5_write 22 = .ok (.ifCond .eq 13, 3) := by decide +kernel
theorem dX5_write_25 : decode cX5_write 25 = .ok (.aload_n 0, 1) := by decide +kernel
theorem dX5_write_26 : decode cX5_write 26 = .ok (.getfield 10, 3) := by decide +kernel
theorem dX5_write_29 : decode cX5_write 29 = .ok (.getfield 61, 3) := by decide +kernel
theorem dX5_write_32 : decode cX5_write 32 = .ok (.goto 5, 3) := by decide +kernel
theorem dX5_write_35 : decode cX5_write 35 = .ok (.ldc 65, 2) := by decide +kernel
theorem dX5_write_37 : decode cX5_write 37 = .ok (.ireturn, 1) := by decide +kernel
theorem dX5_ring_0 : decode cX5_ring 0 = .ok (.aload_n 0, 1) := by decide +kernel
theorem dX5_ring_1 : decode cX5_ring 1 = .ok (.getfield 10, 3) := by decide +kernel
theorem dX5_ring_4 : decode cX5_ring 4 = .ok (.aload_n 0, 1) := by decide +kernel
theorem dX5_ring_5 : decode cX5_ring 5 = .ok (.getfield 23, 3) := by decide +kernel
theorem dX5_ring_8 : decode cX5_ring 8 = .ok (.invokevirtual 66, 3) := by decide +kernel
theorem dX5_ring_11 : decode cX5_ring 11 = .ok (.istore_n 1, 1) := by decide +kernel
theorem dX5_ring_12 : decode cX5_ring 12 = .ok (.aload_n 0, 1) := by decide +kernel
theorem dX5_ring_13 : decode cX5_ring 13 = .ok (.getfield 10, 3) := by decide +kernel
theorem dX5_ring_16 : decode cX5_ring 16 = .ok (.iconst 0, 1) := by decide +kernel
theorem dX5_ring_17 : decode cX5_ring 17 = .ok (.putfield 61, 3) := by decide +kernel
theorem dX5_ring_20 : decode cX5_ring 20 = .ok (.iload_n 1, 1) := by decide +kernel
theorem dX5_ring_21 : decode cX5_ring 21 = .ok (.iconst (-1), 1) := by decide +kernel
theorem dX5_ring_22 : decode cX5_ring 22 = .ok (.if_icmp .eq 8, 3) := by decide +kernel
theorem dX5_ring_25 : decode cX5_ring 25 = .ok (.bipush (-100), 2) := by decide +kernel
theorem dX5_ring_27 : decode cX5_ring 27 = .ok (.iload_n 1, 1) := by decide +kernel
theorem dX5_ring_28 : decode cX5_ring 28 = .ok (.isub, 1) := by decide +kernel
theorem dX5_ring_29 : decode cX5_ring 29 = .ok (.ireturn, 1) := by decide +kernel
theorem dX5_ring_30 : decode cX5_ring 30 = .ok (.aload_n 0, 1) := by decide +kernel
theorem dX5_ring_31 : decode cX5_ring 31 = .ok (.getfield 19, 3) := by decide +kernel
theorem dX5_ring_34 : decode cX5_ring 34 = .ok (.aload_n 0, 1) := by decide +kernel
theorem dX5_ring_35 : decode cX5_ring 35 = .ok (.getfield 23, 3) := by decide +kernel
theorem dX5_ring_38 : decode cX5_ring 38 = .ok (.invokevirtual 70, 3) := by decide +kernel
theorem dX5_ring_41 : decode cX5_ring 41 = .ok (.aload_n 0, 1) := by decide +kernel
theorem dX5_ring_42 : decode cX5_ring 42 = .ok (.getfield 31, 3) := by decide +kernel
theorem dX5_ring_45 : decode cX5_ring 45 = .ok (.iconst 0, 1) := by decide +kernel
theorem dX5_ring_46 : decode cX5_ring 46 = .ok (.iconst 1, 1) := by decide +kernel
theorem dX5_ring_47 : decode cX5_ring 47 = .ok (.iconst 1, 1) := by decide +kernel
theorem dX5_ring_48 : decode cX5_ring 48 = .ok (.invokevirtual 73, 3) := by decide +kernel
theorem dX5_ring_51 : decode cX5_ring 51 = .ok (.aload_n 0, 1) := by decide +kernel
theorem dX5_ring_52 : decode cX5_ring 52 = .ok (.getfield 41, 3) := by decide +kernel
theorem dX5_ring_55 : decode cX5_ring 55 = .ok (.invokevirtual 77, 3) := by decide +kernel
theorem dX5_ring_58 : decode cX5_ring 58 = .ok (.aload_n 0, 1) := by decide +kernel
theorem dX5_ring_59 : decode cX5_ring 59 = .ok (.getfield 19, 3) := by decide +kernel
theorem dX5_ring_62 : decode cX5_ring 62 = .ok (.getfield 80, 3) := by decide +kernel
theorem dX5_ring_65 : decode cX5_ring 65 = .ok (.ireturn, 1) := by decide +kernel
theorem dX5_fault_0 : decode cX5_fault 0 = .ok (.aload_n 0, 1) := by decide +kernel
theorem dX5_fault_1 : decode cX5_fault 1 = .ok (.getfield 10, 3) := by decide +kernel
theorem dX5_fault_4 : decode cX5_fault 4 = .ok (.getfield 83, 3) := by decide +kernel
theorem dX5_fault_7 : decode cX5_fault 7 = .ok (.ireturn, 1) := by decide +kernel
theorem dX5_begin_0 : decode cX5_begin 0 = .ok (.iload_n 1, 1) := by decide +kernel
theorem dX5_begin_1 : decode cX5_begin 1 = .ok (.iconst 1, 1) := by decide +kernel
theorem dX5_begin_2 : decode cX5_begin 2 = .ok (.iconst 4, 1) := by decide +kernel
theorem dX5_begin_3 : decode cX5_begin 3 = .ok (.invokestatic 52, 3) := by decide +kernel
theorem dX5_begin_6 : decode cX5_begin 6 = .ok (.ifCond .eq 23, 3) := by decide +kernel
theorem dX5_begin_9 : decode cX5_begin 9 = .ok (.iload_n 2, 1) := by decide +kernel
theorem dX5_begin_10 : decode cX5_begin 10 = .ok (.iconst 1, 1) := by decide +kernel
theorem dX5_begin_11 : decode cX5_begin 11 = .ok (.bipush 9, 2) := by decide +kernel
theorem dX5_begin_13 : decode cX5_begin 13 = .ok (.invokestatic 52, 3) := by decide +kernel
theorem dX5_begin_16 : decode cX5_begin 16 = .ok (.ifCond .eq 13, 3) := by decide +kernel
theorem dX5_begin_19 : decode cX5_begin 19 = .ok (.iload_n 3, 1) := by decide +kernel
theorem dX5_begin_20 : decode cX5_begin 20 = .ok (.iconst 1, 1) := by decide +kernel
theorem dX5_begin_21 : decode cX5_begin 21 = .ok (.ldc 86, 2) := by decide +kernel
theorem dX5_begin_23 : decode cX5_begin 23 = .ok (.invokestatic 52, 3) := by decide +kernel
theorem dX5_begin_26 : decode cX5_begin 26 = .ok (.ifCond .ne 6, 3) := by decide +kernel
theorem dX5_begin_29 : decode cX5_begin 29 = .ok (.ldc 56, 2) := by decide +kernel
theorem dX5_begin_31 : decode cX5_begin 31 = .ok (.ireturn, 1) := by decide +kernel
theorem dX5_begin_32 : decode cX5_begin 32 = .ok (.iload_n 1, 1) := by decide +kernel
theorem dX5_begin_33 : decode cX5_begin 33 = .ok (.iconst 3, 1) := by decide +kernel
theorem dX5_begin_34 : decode cX5_begin 34 = .ok (.if_icmp .eq 8, 3) := by decide +kernel
theorem dX5_begin_37 : decode cX5_begin 37 = .ok (.iload_n 1, 1) := by decide +kernel
theorem dX5_begin_38 : decode cX5_begin 38 = .ok (.iconst 4, 1) := by decide +kernel
theorem dX5_begin_39 : decode cX5_begin 39 = .ok (.if_icmp .ne 7, 3) := by decide +kernel
theorem dX5_begin_42 : decode cX5_begin 42 = .ok (.iconst 1, 1) := by decide +kernel
theorem dX5_begin_43 : decode cX5_begin 43 = .ok (.goto 4, 3) := by decide +kernel
theorem dX5_begin_46 : decode cX5_begin 46 = .ok (.iconst 0, 1) := by decide +kernel
theorem dX5_begin_47 : decode cX5_begin 47 = .ok (.istore 4, 2) := by decide +kernel
theorem dX5_begin_49 : decode cX5_begin 49 = .ok (.aload_n 0, 1) := by decide +kernel
theorem dX5_begin_50 : decode cX5_begin 50 = .ok (.getfield 19, 3) := by decide +kernel
theorem dX5_begin_53 : decode cX5_begin 53 = .ok (.getfield 80, 3) := by decide +kernel
theorem dX5_begin_56 : decode cX5_begin 56 = .ok (.ifCond .eq 18, 3) := by decide +kernel
theorem dX5_begin_59 : decode cX5_begin 59 = .ok (.iload 4, 2) := by decide +kernel
theorem dX5_begin_61 : decode cX5_begin 61 = .ok (.ifCond .eq 16, 3) := by decide +kernel
theorem dX5_begin_64 : decode cX5_begin 64 = .ok (.aload_n 0, 1) := by decide +kernel
theorem dX5_begin_65 : decode cX5_begin 65 = .ok (.getfield 19, 3) := by decide +kernel
theorem dX5_begin_68 : decode cX5_begin 68 = .ok (.invokevirtual 87, 3) := by decide +kernel
theorem dX5_begin_71 : decode cX5_begin 71 = .ok (.ifCond .ne 6, 3) := by decide +kernel
theorem dX5_begin_74 : decode cX5_begin 74 = .ok (.ldc 91, 2) := by decide +kernel
theorem dX5_begin_76 : decode cX5_begin 76 = .ok (.ireturn, 1) := by decide +kernel
theorem dX5_begin_77 : decode cX5_begin 77 = .ok (.aload_n 0, 1) := by decide +kernel
theorem dX5_begin_78 : decode cX5_begin 78 = .ok (.getfield 31, 3) := by decide +kernel
theorem dX5_begin_81 : decode cX5_begin 81 = .ok (.iload_n 1, 1) := by decide +kernel
theorem dX5_begin_82 : decode cX5_begin 82 = .ok (.iload_n 2, 1) := by decide +kernel
theorem dX5_begin_83 : decode cX5_begin 83 = .ok (.iload_n 3, 1) := by decide +kernel
theorem dX5_begin_84 : decode cX5_begin 84 = .ok (.invokevirtual 73, 3) := by decide +kernel
theorem dX5_begin_87 : decode cX5_begin 87 = .ok (.aload_n 0, 1) := by decide +kernel
theorem dX5_begin_88 : decode cX5_begin 88 = .ok (.getfield 41, 3) := by decide +kernel
theorem dX5_begin_91 : decode cX5_begin 91 = .ok (.invokevirtual 77, 3) := by decide +kernel
theorem dX5_begin_94 : decode cX5_begin 94 = .ok (.iconst 1, 1) := by decide +kernel
theorem dX5_begin_95 : decode cX5_begin 95 = .ok (.ireturn, 1) := by decide +kernel
theorem dX5_wake_0 : decode cX5_wake 0 = .ok (.aload_n 0, 1) := by decide +kernel
theorem dX5_wake_1 : decode cX5_wake 1 = .ok (.getfield 19, 3) := by decide +kernel
theorem dX5_wake_4 : decode cX5_wake 4 = .ok (.iload_n 1, 1) := by decide +kernel
theorem dX5_wake_5 : decode cX5_wake 5 = .ok (.invokevirtual 92, 3) := by decide +kernel
theorem dX5_wake_8 : decode cX5_wake 8 = .ok (.ifCond .ne 6, 3) := by decide +kernel
theorem dX5_wake_11 : decode cX5_wake 11 = .ok (.ldc 95, 2) := by decide +kernel
theorem dX5_wake_13 : decode cX5_wake 13 = .ok (.ireturn, 1) := by decide +kernel
theorem dX5_wake_14 : decode cX5_wake 14 = .ok (.aload_n 0, 1) := by decide +kernel
theorem dX5_wake_15 : decode cX5_wake 15 = .ok (.getfield 31, 3) := by decide +kernel
theorem dX5_wake_18 : decode cX5_wake 18 = .ok (.invokevirtual 96, 3) := by decide +kernel
theorem dX5_wake_21 : decode cX5_wake 21 = .ok (.ifCond .eq 15, 3) := by decide +kernel
theorem dX5_wake_24 : decode cX5_wake 24 = .ok (.aload_n 0, 1) := by decide +kernel
theorem dX5_wake_25 : decode cX5_wake 25 = .ok (.getfield 31, 3) := by decide +kernel
theorem dX5_wake_28 : decode cX5_wake 28 = .ok (.iload_n 1, 1) := by decide +kernel
theorem dX5_wake_29 : decode cX5_wake 29 = .ok (.iconst 0, 1) := by decide +kernel
theorem dX5_wake_30 : decode cX5_wake 30 = .ok (.invokevirtual 99, 3) := by decide +kernel
theorem dX5_wake_33 : decode cX5_wake 33 = .ok (.ifCond .eq 6, 3) := by decide +kernel
theorem dX5_wake_36 : decode cX5_wake 36 = .ok (.ldc 91, 2) := by decide +kernel
theorem dX5_wake_38 : decode cX5_wake 38 = .ok (.ireturn, 1) := by decide +kernel
theorem dX5_wake_39 : decode cX5_wake 39 = .ok (.aload_n 0, 1) := by decide +kernel
theorem dX5_wake_40 : decode cX5_wake 40 = .ok (.getfield 41, 3) := by decide +kernel
theorem dX5_wake_43 : decode cX5_wake 43 = .ok (.aload_n 0, 1) := by decide +kernel
theorem dX5_wake_44 : decode cX5_wake 44 = .ok (.getfield 31, 3) := by decide +kernel
theorem dX5_wake_47 : decode cX5_wake 47 = .ok (.invokevirtual 103, 3) := by decide +kernel
theorem dX5_wake_50 : decode cX5_wake 50 = .ok (.aload_n 0, 1) := by decide +kernel
theorem dX5_wake_51 : decode cX5_wake 51 = .ok (.getfield 31, 3) := by decide +kernel
theorem dX5_wake_54 : decode cX5_wake 54 = .ok (.iconst 0, 1) := by decide +kernel
theorem dX5_wake_55 : decode cX5_wake 55 = .ok (.invokevirtual 107, 3) := by decide +kernel
theorem dX5_wake_58 : decode cX5_wake 58 = .ok (.istore_n 2, 1) := by decide +kernel
theorem dX5_wake_59 : decode cX5_wake 59 = .ok (.aload_n 0, 1) := by decide +kernel
theorem dX5_wake_60 : decode cX5_wake 60 = .ok (.getfield 31, 3) := by decide +kernel
theorem dX5_wake_63 : decode cX5_wake 63 = .ok (.iload_n 1, 1) := by decide +kernel
theorem dX5_wake_64 : decode cX5_wake 64 = .ok (.invokevirtual 111, 3) := by decide +kernel
theorem dX5_wake_67 : decode cX5_wake 67 = .ok (.aload_n 0, 1) := by decide +kernel
theorem dX5_wake_68 : decode cX5_wake 68 = .ok (.getfield 31, 3) := by decide +kernel
theorem dX5_wake_71 : decode cX5_wake 71 = .ok (.iconst 0, 1) := by decide +kernel
theorem dX5_wake_72 : decode cX5_wake 72 = .ok (.invokevirtual 107, 3) := by decide +kernel
theorem dX5_wake_75 : decode cX5_wake 75 = .ok (.iload_n 2, 1) := by decide +kernel
theorem dX5_wake_76 : decode cX5_wake 76 = .ok (.isub, 1) := by decide +kernel
theorem dX5_wake_77 : decode cX5_wake 77 = .ok (.ireturn, 1) := by decide +kernel
theorem dX5_deliver_0 : decode cX5_deliver 0 = .ok (.aload_n 0, 1) := by decide +kernel
theorem dX5_deliver_1 : decode cX5_deliver 1 = .ok (.getfield 19, 3) := by decide +kernel
theorem dX5_deliver_4 : decode cX5_deliver 4 = .ok (.iload_n 1, 1) := by decide +kernel
theorem dX5_deliver_5 : decode cX5_deliver 5 = .ok (.invokevirtual 115, 3) := by decide +kernel
theorem dX5_deliver_8 : decode cX5_deliver 8 = .ok (.ifCond .ne 6, 3) := by decide +kernel
theorem dX5_deliver_11 : decode cX5_deliver 11 = .ok (.ldc 95, 2) := by decide +kernel
theorem dX5_deliver_13 : decode cX5_deliver 13 = .ok (.ireturn, 1) := by decide +kernel
theorem dX5_deliver_14 : decode cX5_deliver 14 = .ok (.aload_n 0, 1) := by decide +kernel
theorem dX5_deliver_15 : decode cX5_deliver 15 = .ok (.getfield 31, 3) := by decide +kernel
theorem dX5_deliver_18 : decode cX5_deliver 18 = .ok (.iload_n 1, 1) := by decide +kernel
theorem dX5_deliver_19 : decode cX5_deliver 19 = .ok (.invokevirtual 118, 3) := by decide +kernel
theorem dX5_deliver_22 : decode cX5_deliver 22 = .ok (.ifCond .ne 6, 3) := by decide +kernel
theorem dX5_deliver_25 : decode cX5_deliver 25 = .ok (.ldc 91, 2) := by decide +kernel
theorem dX5_deliver_27 : decode cX5_deliver 27 = .ok (.ireturn, 1) := by decide +kernel
theorem dX5_deliver_28 : decode cX5_deliver 28 = .ok (.aload_n 0, 1) := by decide +kernel
theorem dX5_deliver_29 : decode cX5_deliver 29 = .ok (.getfield 41, 3) := by decide +kernel
theorem dX5_deliver_32 : decode cX5_deliver 32 = .ok (.aload_n 0, 1) := by decide +kernel
theorem dX5_deliver_33 : decode cX5_deliver 33 = .ok (.getfield 31, 3) := by decide +kernel
theorem dX5_deliver_36 : decode cX5_deliver 36 = .ok (.invokevirtual 103, 3) := by decide +kernel
theorem dX5_deliver_39 : decode cX5_deliver 39 = .ok (.aload_n 0, 1) := by decide +kernel
theorem dX5_deliver_40 : decode cX5_deliver 40 = .ok (.getfield 31, 3) := by decide +kernel
theorem dX5_deliver_43 : decode cX5_deliver 43 = .ok (.iload_n 1, 1) := by decide +kernel
theorem dX5_deliver_44 : decode cX5_deliver 44 = .ok (.invokevirtual 121, 3) := by decide +kernel
theorem dX5_deliver_47 : decode cX5_deliver 47 = .ok (.ireturn, 1) := by decide +kernel
theorem dX5_run_0 : decode cX5_run 0 = .ok (.iload_n 1, 1) := by decide +kernel
theorem dX5_run_1 : decode cX5_run 1 = .ok (.iconst 0, 1) := by decide +kernel
theorem dX5_run_2 : decode cX5_run 2 = .ok (.iconst 3, 1) := by decide +kernel
theorem dX5_run_3 : decode cX5_run 3 = .ok (.invokestatic 52, 3) := by decide +kernel
theorem dX5_run_6 : decode cX5_run 6 = .ok (.ifCond .eq 24, 3) := by decide +kernel
theorem dX5_run_9 : decode cX5_run 9 = .ok (.iload_n 2, 1) := by decide +kernel
theorem dX5_run_10 : decode cX5_run 10 = .ok (.iconst 1, 1) := by decide +kernel
theorem dX5_run_11 : decode cX5_run 11 = .ok (.ldc 86, 2) := by decide +kernel
theorem dX5_run_13 : decode cX5_run 13 = .ok (.invokestatic 52, 3) := by decide +kernel
theorem dX5_run_16 : decode cX5_run 16 = .ok (.ifCond .eq 14, 3) := by decide +kernel
theorem dX5_run_19 : decode cX5_run 19 = .ok (.iload_n 3, 1) := by decide +kernel
theorem dX5_run_20 : decode cX5_run 20 = .ok (.iconst 0, 1) := by decide +kernel
theorem dX5_run_21 : decode cX5_run 21 = .ok (.sipush 200, 3) := by decide +kernel
theorem dX5_run_24 : decode cX5_run 24 = .ok (.invokestatic 52, 3) := by decide +kernel
theorem dX5_run_27 : decode cX5_run 27 = .ok (.ifCond .ne 6, 3) := by decide +kernel
theorem dX5_run_30 : decode cX5_run 30 = .ok (.ldc 56, 2) := by decide +kernel
theorem dX5_run_32 : decode cX5_run 32 = .ok (.ireturn, 1) := by decide +kernel
theorem dX5_run_33 : decode cX5_run 33 = .ok (.aload_n 0, 1) := by decide +kernel
theorem dX5_run_34 : decode cX5_run 34 = .ok (.getfield 31, 3) := by decide +kernel
theorem dX5_run_37 : decode cX5_run 37 = .ok (.invokevirtual 96, 3) := by decide +kernel
theorem dX5_run_40 : decode cX5_run 40 = .ok (.ifCond .ne 6, 3) := by decide +kernel
theorem dX5_run_43 : decode cX5_run 43 = .ok (.ldc 91, 2) := by decide +kernel
theorem dX5_run_45 : decode cX5_run 45 = .ok (.ireturn, 1) := by decide +kernel
theorem dX5_run_46 : decode cX5_run 46 = .ok (.iload_n 3, 1) := by decide +kernel
theorem dX5_run_47 : decode cX5_run 47 = .ok (.ifCond .eq 13, 3) := by decide +kernel
theorem dX5_run_50 : decode cX5_run 50 = .ok (.aload_n 0, 1) := by decide +kernel
theorem dX5_run_51 : decode cX5_run 51 = .ok (.getfield 31, 3) := by decide +kernel
theorem dX5_run_54 : decode cX5_run 54 = .ok (.getfield 124, 3) := by decide +kernel
theorem dX5_run_57 : decode cX5_run 57 = .ok (.ifCond .ne 5, 3) := by decide +kernel
theorem dX5_run_60 : decode cX5_run 60 = .ok (.iconst 0, 1) := by decide +kernel
theorem dX5_run_61 : decode cX5_run 61 = .ok (.ireturn, 1) := by decide +kernel
theorem dX5_run_62 : decode cX5_run 62 = .ok (.aload_n 0, 1) := by decide +kernel
theorem dX5_run_63 : decode cX5_run 63 = .ok (.getfield 41, 3) := by decide +kernel
theorem dX5_run_66 : decode cX5_run 66 = .ok (.aload_n 0, 1) := by decide +kernel
theorem dX5_run_67 : decode cX5_run 67 = .ok (.getfield 31, 3) := by decide +kernel
theorem dX5_run_70 : decode cX5_run 70 = .ok (.invokevirtual 103, 3) := by decide +kernel
theorem dX5_run_73 : decode cX5_run 73 = .ok (.aload_n 0, 1) := by decide +kernel
theorem dX5_run_74 : decode cX5_run 74 = .ok (.getfield 31, 3) := by decide +kernel
theorem dX5_run_77 : decode cX5_run 77 = .ok (.iload_n 1, 1) := by decide +kernel
theorem dX5_run_78 : decode cX5_run 78 = .ok (.iload_n 2, 1) := by decide +kernel
theorem dX5_run_79 : decode cX5_run 79 = .ok (.iload_n 3, 1) := by decide +kernel
theorem dX5_run_80 : decode cX5_run 80 = .ok (.invokevirtual 127, 3) := by decide +kernel
theorem dX5_run_83 : decode cX5_run 83 = .ok (.ireturn, 1) := by decide +kernel
theorem dX5_undo_0 : decode cX5_undo 0 = .ok (.aload_n 0, 1) := by decide +kernel
theorem dX5_undo_1 : decode cX5_undo 1 = .ok (.getfield 41, 3) := by decide +kernel
theorem dX5_undo_4 : decode cX5_undo 4 = .ok (.aload_n 0, 1) := by decide +kernel
theorem dX5_undo_5 : decode cX5_undo 5 = .ok (.getfield 31, 3) := by decide +kernel
theorem dX5_undo_8 : decode cX5_undo 8 = .ok (.invokevirtual 131, 3) := by decide +kernel
theorem dX5_undo_11 : decode cX5_undo 11 = .ok (.ifCond .ne 6, 3) := by decide +kernel
theorem dX5_undo_14 : decode cX5_undo 14 = .ok (.ldc 91, 2) := by decide +kernel
theorem dX5_undo_16 : decode cX5_undo 16 = .ok (.ireturn, 1) := by decide +kernel
theorem dX5_undo_17 : decode cX5_undo 17 = .ok (.aload_n 0, 1) := by decide +kernel
theorem dX5_undo_18 : decode cX5_undo 18 = .ok (.getfield 41, 3) := by decide +kernel
theorem dX5_undo_21 : decode cX5_undo 21 = .ok (.getfield 135, 3) := by decide +kernel
theorem dX5_undo_24 : decode cX5_undo 24 = .ok (.ireturn, 1) := by decide +kernel
theorem dX5_contender_0 : decode cX5_contender 0 = .ok (.aload_n 0, 1) := by decide +kernel
theorem dX5_contender_1 : decode cX5_contender 1 = .ok (.getfield 19, 3) := by decide +kernel
theorem dX5_contender_4 : decode cX5_contender 4 = .ok (.iload_n 1, 1) := by decide +kernel
theorem dX5_contender_5 : decode cX5_contender 5 = .ok (.invokevirtual 92, 3) := by decide +kernel
theorem dX5_contender_8 : decode cX5_contender 8 = .ok (.ifCond .ne 6, 3) := by decide +kernel
theorem dX5_contender_11 : decode cX5_contender 11 = .ok (.ldc 95, 2) := by decide +kernel
theorem dX5_contender_13 : decode cX5_contender 13 = .ok (.ireturn, 1) := by decide +kernel
theorem dX5_contender_14 : decode cX5_contender 14 = .ok (.iload_n 2, 1) := by decide +kernel
theorem dX5_contender_15 : decode cX5_contender 15 = .ok (.tableswitch 110 0 6 #[41, 50, 60, 70, 80, 90, 100], 41) := by decide +kernel
theorem dX5_contender_56 : decode cX5_contender 56 = .ok (.aload_n 0, 1) := by decide +kernel
theorem dX5_contender_57 : decode cX5_contender 57 = .ok (.getfield 19, 3) := by decide +kernel
theorem dX5_contender_60 : decode cX5_contender 60 = .ok (.iload_n 1, 1) := by decide +kernel
theorem dX5_contender_61 : decode cX5_contender 61 = .ok (.invokevirtual 136, 3) := by decide +kernel
theorem dX5_contender_64 : decode cX5_contender 64 = .ok (.ireturn, 1) := by decide +kernel
theorem dX5_contender_65 : decode cX5_contender 65 = .ok (.aload_n 0, 1) := by decide +kernel
theorem dX5_contender_66 : decode cX5_contender 66 = .ok (.getfield 31, 3) := by decide +kernel
theorem dX5_contender_69 : decode cX5_contender 69 = .ok (.iload_n 1, 1) := by decide +kernel
theorem dX5_contender_70 : decode cX5_contender 70 = .ok (.iconst 1, 1) := by decide +kernel
theorem dX5_contender_71 : decode cX5_contender 71 = .ok (.invokevirtual 99, 3) := by decide +kernel
theorem dX5_contender_74 : decode cX5_contender 74 = .ok (.ireturn, 1) := by decide +kernel
theorem dX5_contender_75 : decode cX5_contender 75 = .ok (.aload_n 0, 1) := by decide +kernel
theorem dX5_contender_76 : decode cX5_contender 76 = .ok (.getfield 31, 3) := by decide +kernel
theorem dX5_contender_79 : decode cX5_contender 79 = .ok (.iload_n 1, 1) := by decide +kernel
theorem dX5_contender_80 : decode cX5_contender 80 = .ok (.iconst 0, 1) := by decide +kernel
theorem dX5_contender_81 : decode cX5_contender 81 = .ok (.invokevirtual 99, 3) := by decide +kernel
theorem dX5_contender_84 : decode cX5_contender 84 = .ok (.ireturn, 1) := by decide +kernel
theorem dX5_contender_85 : decode cX5_contender 85 = .ok (.aload_n 0, 1) := by decide +kernel
theorem dX5_contender_86 : decode cX5_contender 86 = .ok (.getfield 31, 3) := by decide +kernel
theorem dX5_contender_89 : decode cX5_contender 89 = .ok (.iload_n 1, 1) := by decide +kernel
theorem dX5_contender_90 : decode cX5_contender 90 = .ok (.iconst 2, 1) := by decide +kernel
theorem dX5_contender_91 : decode cX5_contender 91 = .ok (.invokevirtual 99, 3) := by decide +kernel
theorem dX5_contender_94 : decode cX5_contender 94 = .ok (.ireturn, 1) := by decide +kernel
theorem dX5_contender_95 : decode cX5_contender 95 = .ok (.aload_n 0, 1) := by decide +kernel
theorem dX5_contender_96 : decode cX5_contender 96 = .ok (.getfield 31, 3) := by decide +kernel
theorem dX5_contender_99 : decode cX5_contender 99 = .ok (.iload_n 1, 1) := by decide +kernel
theorem dX5_contender_100 : decode cX5_contender 100 = .ok (.iconst 3, 1) := by decide +kernel
theorem dX5_contender_101 : decode cX5_contender 101 = .ok (.invokevirtual 99, 3) := by decide +kernel
theorem dX5_contender_104 : decode cX5_contender 104 = .ok (.ireturn, 1) := by decide +kernel
theorem dX5_contender_105 : decode cX5_contender 105 = .ok (.aload_n 0, 1) := by decide +kernel
theorem dX5_contender_106 : decode cX5_contender 106 = .ok (.getfield 31, 3) := by decide +kernel
theorem dX5_contender_109 : decode cX5_contender 109 = .ok (.iload_n 1, 1) := by decide +kernel
theorem dX5_contender_110 : decode cX5_contender 110 = .ok (.iconst 4, 1) := by decide +kernel
theorem dX5_contender_111 : decode cX5_contender 111 = .ok (.invokevirtual 99, 3) := by decide +kernel
theorem dX5_contender_114 : decode cX5_contender 114 = .ok (.ireturn, 1) := by decide +kernel
theorem dX5_contender_115 : decode cX5_contender 115 = .ok (.aload_n 0, 1) := by decide +kernel
theorem dX5_contender_116 : decode cX5_contender 116 = .ok (.getfield 31, 3) := by decide +kernel
theorem dX5_contender_119 : decode cX5_contender 119 = .ok (.iload_n 1, 1) := by decide +kernel
theorem dX5_contender_120 : decode cX5_contender 120 = .ok (.iconst 5, 1) := by decide +kernel
theorem dX5_contender_121 : decode cX5_contender 121 = .ok (.invokevirtual 99, 3) := by decide +kernel
theorem dX5_contender_124 : decode cX5_contender 124 = .ok (.ireturn, 1) := by decide +kernel
theorem dX5_contender_125 : decode cX5_contender 125 = .ok (.ldc 56, 2) := by decide +kernel
theorem dX5_contender_127 : decode cX5_contender 127 = .ok (.ireturn, 1) := by decide +kernel
theorem dX5_link_0 : decode cX5_link 0 = .ok (.aload_n 0, 1) := by decide +kernel
theorem dX5_link_1 : decode cX5_link 1 = .ok (.getfield 19, 3) := by decide +kernel
theorem dX5_link_4 : decode cX5_link 4 = .ok (.iload_n 1, 1) := by decide +kernel
theorem dX5_link_5 : decode cX5_link 5 = .ok (.invokevirtual 115, 3) := by decide +kernel
theorem dX5_link_8 : decode cX5_link 8 = .ok (.ifCond .eq 14, 3) := by decide +kernel
theorem dX5_link_11 : decode cX5_link 11 = .ok (.aload_n 0, 1) := by decide +kernel
theorem dX5_link_12 : decode cX5_link 12 = .ok (.getfield 31, 3) := by decide +kernel
theorem dX5_link_15 : decode cX5_link 15 = .ok (.iload_n 1, 1) := by decide +kernel
theorem dX5_link_16 : decode cX5_link 16 = .ok (.invokevirtual 139, 3) := by decide +kernel
theorem dX5_link_19 : decode cX5_link 19 = .ok (.goto 5, 3) := by decide +kernel
theorem dX5_link_22 : decode cX5_link 22 = .ok (.ldc 95, 2) := by decide +kernel
theorem dX5_link_24 : decode cX5_link 24 = .ok (.ireturn, 1) := by decide +kernel
theorem dX5_letter_0 : decode cX5_letter 0 = .ok (.aload_n 0, 1) := by decide +kernel
theorem dX5_letter_1 : decode cX5_letter 1 = .ok (.getfield 19, 3) := by decide +kernel
theorem dX5_letter_4 : decode cX5_letter 4 = .ok (.iload_n 1, 1) := by decide +kernel
theorem dX5_letter_5 : decode cX5_letter 5 = .ok (.invokevirtual 115, 3) := by decide +kernel
theorem dX5_letter_8 : decode cX5_letter 8 = .ok (.ifCond .ne 6, 3) := by decide +kernel
theorem dX5_letter_11 : decode cX5_letter 11 = .ok (.ldc 95, 2) := by decide +kernel
theorem dX5_letter_13 : decode cX5_letter 13 = .ok (.ireturn, 1) := by decide +kernel
theorem dX5_letter_14 : decode cX5_letter 14 = .ok (.aload_n 0, 1) := by decide +kernel
theorem dX5_letter_15 : decode cX5_letter 15 = .ok (.getfield 31, 3) := by decide +kernel
theorem dX5_letter_18 : decode cX5_letter 18 = .ok (.iload_n 1, 1) := by decide +kernel
theorem dX5_letter_19 : decode cX5_letter 19 = .ok (.iload_n 2, 1) := by decide +kernel
theorem dX5_letter_20 : decode cX5_letter 20 = .ok (.invokevirtual 142, 3) := by decide +kernel
theorem dX5_letter_23 : decode cX5_letter 23 = .ok (.istore 4, 2) := by decide +kernel
theorem dX5_letter_25 : decode cX5_letter 25 = .ok (.iload 4, 2) := by decide +kernel
theorem dX5_letter_27 : decode cX5_letter 27 = .ok (.iconst (-1), 1) := by decide +kernel
theorem dX5_letter_28 : decode cX5_letter 28 = .ok (.if_icmp .ne 6, 3) := by decide +kernel
theorem dX5_letter_31 : decode cX5_letter 31 = .ok (.ldc 95, 2) := by decide +kernel
theorem dX5_letter_33 : decode cX5_letter 33 = .ok (.ireturn, 1) := by decide +kernel
theorem dX5_letter_34 : decode cX5_letter 34 = .ok (.iload_n 3, 1) := by decide +kernel
theorem dX5_letter_35 : decode cX5_letter 35 = .ok (.tableswitch 88 0 4 #[33, 44, 55, 66, 77], 33) := by decide +kernel
theorem dX5_letter_68 : decode cX5_letter 68 = .ok (.aload_n 0, 1) := by decide +kernel
theorem dX5_letter_69 : decode cX5_letter 69 = .ok (.getfield 31, 3) := by decide +kernel
theorem dX5_letter_72 : decode cX5_letter 72 = .ok (.iload 4, 2) := by decide +kernel
theorem dX5_letter_74 : decode cX5_letter 74 = .ok (.iconst 1, 1) := by decide +kernel
theorem dX5_letter_75 : decode cX5_letter 75 = .ok (.invokevirtual 145, 3) := by decide +kernel
theorem dX5_letter_78 : decode cX5_letter 78 = .ok (.ireturn, 1) := by decide +kernel
theorem dX5_letter_79 : decode cX5_letter 79 = .ok (.aload_n 0, 1) := by decide +kernel
theorem dX5_letter_80 : decode cX5_letter 80 = .ok (.getfield 31, 3) := by decide +kernel
theorem dX5_letter_83 : decode cX5_letter 83 = .ok (.iload 4, 2) := by decide +kernel
theorem dX5_letter_85 : decode cX5_letter 85 = .ok (.iconst 2, 1) := by decide +kernel
theorem dX5_letter_86 : decode cX5_letter 86 = .ok (.invokevirtual 145, 3) := by decide +kernel
theorem dX5_letter_89 : decode cX5_letter 89 = .ok (.ireturn, 1) := by decide +kernel
theorem dX5_letter_90 : decode cX5_letter 90 = .ok (.aload_n 0, 1) := by decide +kernel
theorem dX5_letter_91 : decode cX5_letter 91 = .ok (.getfield 31, 3) := by decide +kernel
theorem dX5_letter_94 : decode cX5_letter 94 = .ok (.iload 4, 2) := by decide +kernel
theorem dX5_letter_96 : decode cX5_letter 96 = .ok (.iconst 3, 1) := by decide +kernel
theorem dX5_letter_97 : decode cX5_letter 97 = .ok (.invokevirtual 145, 3) := by decide +kernel
theorem dX5_letter_100 : decode cX5_letter 100 = .ok (.ireturn, 1) := by decide +kernel
theorem dX5_letter_101 : decode cX5_letter 101 = .ok (.aload_n 0, 1) := by decide +kernel
theorem dX5_letter_102 : decode cX5_letter 102 = .ok (.getfield 31, 3) := by decide +kernel
theorem dX5_letter_105 : decode cX5_letter 105 = .ok (.iload 4, 2) := by decide +kernel
theorem dX5_letter_107 : decode cX5_letter 107 = .ok (.iconst 4, 1) := by decide +kernel
theorem dX5_letter_108 : decode cX5_letter 108 = .ok (.invokevirtual 145, 3) := by decide +kernel
theorem dX5_letter_111 : decode cX5_letter 111 = .ok (.ireturn, 1) := by decide +kernel
theorem dX5_letter_112 : decode cX5_letter 112 = .ok (.aload_n 0, 1) := by decide +kernel
theorem dX5_letter_113 : decode cX5_letter 113 = .ok (.getfield 31, 3) := by decide +kernel
theorem dX5_letter_116 : decode cX5_letter 116 = .ok (.iload 4, 2) := by decide +kernel
theorem dX5_letter_118 : decode cX5_letter 118 = .ok (.iconst 5, 1) := by decide +kernel
theorem dX5_letter_119 : decode cX5_letter 119 = .ok (.invokevirtual 145, 3) := by decide +kernel
theorem dX5_letter_122 : decode cX5_letter 122 = .ok (.ireturn, 1) := by decide +kernel
theorem dX5_letter_123 : decode cX5_letter 123 = .ok (.ldc 56, 2) := by decide +kernel
theorem dX5_letter_125 : decode cX5_letter 125 = .ok (.ireturn, 1) := by decide +kernel
theorem dX5_sent_0 : decode cX5_sent 0 = .ok (.iload_n 1, 1) := by decide +kernel
theorem dX5_sent_1 : decode cX5_sent 1 = .ok (.iconst 0, 1) := by decide +kernel
theorem dX5_sent_2 : decode cX5_sent 2 = .ok (.bipush 7, 2) := by decide +kernel
theorem dX5_sent_4 : decode cX5_sent 4 = .ok (.invokestatic 52, 3) := by decide +kernel
theorem dX5_sent_7 : decode cX5_sent 7 = .ok (.ifCond .eq 14, 3) := by decide +kernel
theorem dX5_sent_10 : decode cX5_sent 10 = .ok (.aload_n 0, 1) := by decide +kernel
theorem dX5_sent_11 : decode cX5_sent 11 = .ok (.getfield 31, 3) := by decide +kernel
theorem dX5_sent_14 : decode cX5_sent 14 = .ok (.iload_n 1, 1) := by decide +kernel
theorem dX5_sent_15 : decode cX5_sent 15 = .ok (.invokevirtual 107, 3) := by decide +kernel
theorem dX5_sent_18 : decode cX5_sent 18 = .ok (.goto 5, 3) := by decide +kernel
theorem dX5_sent_21 : decode cX5_sent 21 = .ok (.ldc 56, 2) := by decide +kernel
theorem dX5_sent_23 : decode cX5_sent 23 = .ok (.ireturn, 1) := by decide +kernel
theorem dX5_would_0 : decode cX5_would 0 = .ok (.iload_n 1, 1) := by decide +kernel
theorem dX5_would_1 : decode cX5_would 1 = .ok (.iconst 0, 1) := by decide +kernel
theorem dX5_would_2 : decode cX5_would 2 = .ok (.iconst 3, 1) := by decide +kernel
theorem dX5_would_3 : decode cX5_would 3 = .ok (.invokestatic 52, 3) := by decide +kernel
theorem dX5_would_6 : decode cX5_would 6 = .ok (.ifCond .eq 22, 3) := by decide +kernel
theorem dX5_would_9 : decode cX5_would 9 = .ok (.iload_n 2, 1) := by decide +kernel
theorem dX5_would_10 : decode cX5_would 10 = .ok (.iconst 1, 1) := by decide +kernel
theorem dX5_would_11 : decode cX5_would 11 = .ok (.ldc 86, 2) := by decide +kernel
theorem dX5_would_13 : decode cX5_would 13 = .ok (.invokestatic 52, 3) := by decide +kernel
theorem dX5_would_16 : decode cX5_would 16 = .ok (.ifCond .eq 12, 3) := by decide +kernel
theorem dX5_would_19 : decode cX5_would 19 = .ok (.iload_n 3, 1) := by decide +kernel
theorem dX5_would_20 : decode cX5_would 20 = .ok (.iconst 0, 1) := by decide +kernel
theorem dX5_would_21 : decode cX5_would 21 = .ok (.iconst 4, 1) := by decide +kernel
theorem dX5_would_22 : decode cX5_would 22 = .ok (.invokestatic 52, 3) := by decide +kernel
theorem dX5_would_25 : decode cX5_would 25 = .ok (.ifCond .ne 6, 3) := by decide +kernel
theorem dX5_would_28 : decode cX5_would 28 = .ok (.ldc 56, 2) := by decide +kernel
theorem dX5_would_30 : decode cX5_would 30 = .ok (.ireturn, 1) := by decide +kernel
theorem dX5_would_31 : decode cX5_would 31 = .ok (.aload_n 0, 1) := by decide +kernel
theorem dX5_would_32 : decode cX5_would 32 = .ok (.getfield 31, 3) := by decide +kernel
theorem dX5_would_35 : decode cX5_would 35 = .ok (.invokevirtual 96, 3) := by decide +kernel
theorem dX5_would_38 : decode cX5_would 38 = .ok (.ifCond .ne 6, 3) := by decide +kernel
theorem dX5_would_41 : decode cX5_would 41 = .ok (.ldc 91, 2) := by decide +kernel
theorem dX5_would_43 : decode cX5_would 43 = .ok (.ireturn, 1) := by decide +kernel
theorem dX5_would_44 : decode cX5_would 44 = .ok (.aload_n 0, 1) := by decide +kernel
theorem dX5_would_45 : decode cX5_would 45 = .ok (.getfield 35, 3) := by decide +kernel
theorem dX5_would_48 : decode cX5_would 48 = .ok (.aload_n 0, 1) := by decide +kernel
theorem dX5_would_49 : decode cX5_would 49 = .ok (.getfield 31, 3) := by decide +kernel
theorem dX5_would_52 : decode cX5_would 52 = .ok (.invokevirtual 148, 3) := by decide +kernel
theorem dX5_would_55 : decode cX5_would 55 = .ok (.aload_n 0, 1) := by decide +kernel
theorem dX5_would_56 : decode cX5_would 56 = .ok (.getfield 35, 3) := by decide +kernel
theorem dX5_would_59 : decode cX5_would 59 = .ok (.iload_n 1, 1) := by decide +kernel
theorem dX5_would_60 : decode cX5_would 60 = .ok (.iload_n 2, 1) := by decide +kernel
theorem dX5_would_61 : decode cX5_would 61 = .ok (.sipush 300, 3) := by decide +kernel
theorem dX5_would_64 : decode cX5_would 64 = .ok (.invokevirtual 127, 3) := by decide +kernel
theorem dX5_would_67 : decode cX5_would 67 = .ok (.istore 4, 2) := by decide +kernel
theorem dX5_would_69 : decode cX5_would 69 = .ok (.iload_n 3, 1) := by decide +kernel
theorem dX5_would_70 : decode cX5_would 70 = .ok (.tableswitch 77 0 3 #[30, 33, 51, 59], 30) := by decide +kernel
theorem dX5_would_100 : decode cX5_would 100 = .ok (.iload 4, 2) := by decide +kernel
theorem dX5_would_102 : decode cX5_would 102 = .ok (.ireturn, 1) := by decide +kernel
theorem dX5_would_103 : decode cX5_would 103 = .ok (.aload_n 0, 1) := by decide +kernel
theorem dX5_would_104 : decode cX5_would 104 = .ok (.getfield 35, 3) := by decide +kernel
theorem dX5_would_107 : decode cX5_would 107 = .ok (.iconst 0, 1) := by decide +kernel
theorem dX5_would_108 : decode cX5_would 108 = .ok (.invokevirtual 107, 3) := by decide +kernel
theorem dX5_would_111 : decode cX5_would 111 = .ok (.aload_n 0, 1) := by decide +kernel
theorem dX5_would_112 : decode cX5_would 112 = .ok (.getfield 31, 3) := by decide +kernel
theorem dX5_would_115 : decode cX5_would 115 = .ok (.iconst 0, 1) := by decide +kernel
theorem dX5_would_116 : decode cX5_would 116 = .ok (.invokevirtual 107, 3) := by decide +kernel
theorem dX5_would_119 : decode cX5_would 119 = .ok (.isub, 1) := by decide +kernel
theorem dX5_would_120 : decode cX5_would 120 = .ok (.ireturn, 1) := by decide +kernel
theorem dX5_would_121 : decode cX5_would 121 = .ok (.aload_n 0, 1) := by decide +kernel
theorem dX5_would_122 : decode cX5_would 122 = .ok (.getfield 35, 3) := by decide +kernel
theorem dX5_would_125 : decode cX5_would 125 = .ok (.invokevirtual 150, 3) := by decide +kernel
theorem dX5_would_128 : decode cX5_would 128 = .ok (.ireturn, 1) := by decide +kernel
theorem dX5_would_129 : decode cX5_would 129 = .ok (.aload_n 0, 1) := by decide +kernel
theorem dX5_would_130 : decode cX5_would 130 = .ok (.getfield 35, 3) := by decide +kernel
theorem dX5_would_133 : decode cX5_would 133 = .ok (.iconst 3, 1) := by decide +kernel
theorem dX5_would_134 : decode cX5_would 134 = .ok (.invokevirtual 154, 3) := by decide +kernel
theorem dX5_would_137 : decode cX5_would 137 = .ok (.aload_n 0, 1) := by decide +kernel
theorem dX5_would_138 : decode cX5_would 138 = .ok (.getfield 35, 3) := by decide +kernel
theorem dX5_would_141 : decode cX5_would 141 = .ok (.iconst 4, 1) := by decide +kernel
theorem dX5_would_142 : decode cX5_would 142 = .ok (.invokevirtual 154, 3) := by decide +kernel
theorem dX5_would_145 : decode cX5_would 145 = .ok (.iadd, 1) := by decide +kernel
theorem dX5_would_146 : decode cX5_would 146 = .ok (.ireturn, 1) := by decide +kernel
theorem dX5_would_147 : decode cX5_would 147 = .ok (.aload_n 0, 1) := by decide +kernel
theorem dX5_would_148 : decode cX5_would 148 = .ok (.getfield 35, 3) := by decide +kernel
theorem dX5_would_151 : decode cX5_would 151 = .ok (.getfield 124, 3) := by decide +kernel
theorem dX5_would_154 : decode cX5_would 154 = .ok (.ifCond .ne 7, 3) := by decide +kernel
theorem dX5_would_157 : decode cX5_would 157 = .ok (.iconst 1, 1) := by decide +kernel
theorem dX5_would_158 : decode cX5_would 158 = .ok (.goto 4, 3) := by decide +kernel
theorem dX5_would_161 : decode cX5_would 161 = .ok (.iconst 0, 1) := by decide +kernel
theorem dX5_would_162 : decode cX5_would 162 = .ok (.ireturn, 1) := by decide +kernel
theorem dX5_foresee_0 : decode cX5_foresee 0 = .ok (.iload_n 1, 1) := by decide +kernel
theorem dX5_foresee_1 : decode cX5_foresee 1 = .ok (.iconst 1, 1) := by decide +kernel
theorem dX5_foresee_2 : decode cX5_foresee 2 = .ok (.iconst 3, 1) := by decide +kernel
theorem dX5_foresee_3 : decode cX5_foresee 3 = .ok (.invokestatic 52, 3) := by decide +kernel
theorem dX5_foresee_6 : decode cX5_foresee 6 = .ok (.ifCond .eq 12, 3) := by decide +kernel
theorem dX5_foresee_9 : decode cX5_foresee 9 = .ok (.iload_n 2, 1) := by decide +kernel
theorem dX5_foresee_10 : decode cX5_foresee 10 = .ok (.iconst 0, 1) := by decide +kernel
theorem dX5_foresee_11 : decode cX5_foresee 11 = .ok (.iconst 3, 1) := by decide +kernel
theorem dX5_foresee_12 : decode cX5_foresee 12 = .ok (.invokestatic 52, 3) := by decide +kernel
theorem dX5_foresee_15 : decode cX5_foresee 15 = .ok (.ifCond .ne 6, 3) := by decide +kernel
theorem dX5_foresee_18 : decode cX5_foresee 18 = .ok (.ldc 56, 2) := by decide +kernel
theorem dX5_foresee_20 : decode cX5_foresee 20 = .ok (.ireturn, 1) := by decide +kernel
theorem dX5_foresee_21 : decode cX5_foresee 21 = .ok (.aload_n 0, 1) := by decide +kernel
theorem dX5_foresee_22 : decode cX5_foresee 22 = .ok (.getfield 31, 3) := by decide +kernel
theorem dX5_foresee_25 : decode cX5_foresee 25 = .ok (.invokevirtual 96, 3) := by decide +kernel
theorem dX5_foresee_28 : decode cX5_foresee 28 = .ok (.ifCond .ne 6, 3) := by decide +kernel
theorem dX5_foresee_31 : decode cX5_foresee 31 = .ok (.ldc 91, 2) := by decide +kernel
theorem dX5_foresee_33 : decode cX5_foresee 33 = .ok (.ireturn, 1) := by decide +kernel
theorem dX5_foresee_34 : decode cX5_foresee 34 = .ok (.aload_n 0, 1) := by decide +kernel
theorem dX5_foresee_35 : decode cX5_foresee 35 = .ok (.getfield 31, 3) := by decide +kernel
theorem dX5_foresee_38 : decode cX5_foresee 38 = .ok (.invokevirtual 157, 3) := by decide +kernel
theorem dX5_foresee_41 : decode cX5_foresee 41 = .ok (.bipush 6, 2) := by decide +kernel
theorem dX5_foresee_43 : decode cX5_foresee 43 = .ok (.if_icmp .le 6, 3) := by decide +kernel
theorem dX5_foresee_46 : decode cX5_foresee 46 = .ok (.ldc 65, 2) := by decide +kernel
theorem dX5_foresee_48 : decode cX5_foresee 48 = .ok (.ireturn, 1) := by decide +kernel
theorem dX5_foresee_49 : decode cX5_foresee 49 = .ok (.aload_n 0, 1) := by decide +kernel
theorem dX5_foresee_50 : decode cX5_foresee 50 = .ok (.getfield 48, 3) := by decide +kernel
theorem dX5_foresee_53 : decode cX5_foresee 53 = .ok (.aload_n 0, 1) := by decide +kernel
theorem dX5_foresee_54 : decode cX5_foresee 54 = .ok (.getfield 31, 3) := by decide +kernel
theorem dX5_foresee_57 : decode cX5_foresee 57 = .ok (.invokevirtual 160, 3) := by decide +kernel
theorem dX5_foresee_60 : decode cX5_foresee 60 = .ok (.aload_n 0, 1) := by decide +kernel
theorem dX5_foresee_61 : decode cX5_foresee 61 = .ok (.getfield 48, 3) := by decide +kernel
theorem dX5_foresee_64 : decode cX5_foresee 64 = .ok (.aload_n 0, 1) := by decide +kernel
theorem dX5_foresee_65 : decode cX5_foresee 65 = .ok (.getfield 31, 3) := by decide +kernel
theorem dX5_foresee_68 : decode cX5_foresee 68 = .ok (.iload_n 1, 1) := by decide +kernel
theorem dX5_foresee_69 : decode cX5_foresee 69 = .ok (.invokevirtual 163, 3) := by decide +kernel
theorem dX5_foresee_72 : decode cX5_foresee 72 = .ok (.iload_n 2, 1) := by decide +kernel
theorem dX5_foresee_73 : decode cX5_foresee 73 = .ok (.tableswitch 51 0 2 #[27, 35, 43], 27) := by decide +kernel
theorem dX5_foresee_100 : decode cX5_foresee 100 = .ok (.aload_n 0, 1) := by decide +kernel
theorem dX5_foresee_101 : decode cX5_foresee 101 = .ok (.getfield 48, 3) := by decide +kernel
theorem dX5_foresee_104 : decode cX5_foresee 104 = .ok (.getfield 167, 3) := by decide +kernel
theorem dX5_foresee_107 : decode cX5_foresee 107 = .ok (.ireturn, 1) := by decide +kernel
theorem dX5_foresee_108 : decode cX5_foresee 108 = .ok (.aload_n 0, 1) := by decide +kernel
theorem dX5_foresee_109 : decode cX5_foresee 109 = .ok (.getfield 48, 3) := by decide +kernel
theorem dX5_foresee_112 : decode cX5_foresee 112 = .ok (.getfield 170, 3) := by decide +kernel
theorem dX5_foresee_115 : decode cX5_foresee 115 = .ok (.ireturn, 1) := by decide +kernel
theorem dX5_foresee_116 : decode cX5_foresee 116 = .ok (.aload_n 0, 1) := by decide +kernel
theorem dX5_foresee_117 : decode cX5_foresee 117 = .ok (.getfield 48, 3) := by decide +kernel
theorem dX5_foresee_120 : decode cX5_foresee 120 = .ok (.getfield 173, 3) := by decide +kernel
theorem dX5_foresee_123 : decode cX5_foresee 123 = .ok (.ireturn, 1) := by decide +kernel
theorem dX5_foresee_124 : decode cX5_foresee 124 = .ok (.aload_n 0, 1) := by decide +kernel
theorem dX5_foresee_125 : decode cX5_foresee 125 = .ok (.getfield 48, 3) := by decide +kernel
theorem dX5_foresee_128 : decode cX5_foresee 128 = .ok (.getfield 176, 3) := by decide +kernel
theorem dX5_foresee_131 : decode cX5_foresee 131 = .ok (.ireturn, 1) := by decide +kernel
theorem dX5_sit_0 : decode cX5_sit 0 = .ok (.iload_n 1, 1) := by decide +kernel
theorem dX5_sit_1 : decode cX5_sit 1 = .ok (.iconst 0, 1) := by decide +kernel
theorem dX5_sit_2 : decode cX5_sit 2 = .ok (.iconst 3, 1) := by decide +kernel
theorem dX5_sit_3 : decode cX5_sit 3 = .ok (.invokestatic 52, 3) := by decide +kernel
theorem dX5_sit_6 : decode cX5_sit 6 = .ok (.ifCond .ne 6, 3) := by decide +kernel
theorem dX5_sit_9 : decode cX5_sit 9 = .ok (.ldc 56, 2) := by decide +kernel
theorem dX5_sit_11 : decode cX5_sit 11 = .ok (.ireturn, 1) := by decide +kernel
theorem dX5_sit_12 : decode cX5_sit 12 = .ok (.aload_n 0, 1) := by decide +kernel
theorem dX5_sit_13 : decode cX5_sit 13 = .ok (.getfield 19, 3) := by decide +kernel
theorem dX5_sit_16 : decode cX5_sit 16 = .ok (.getfield 80, 3) := by decide +kernel
theorem dX5_sit_19 : decode cX5_sit 19 = .ok (.istore_n 2, 1) := by decide +kernel
theorem dX5_sit_20 : decode cX5_sit 20 = .ok (.iload_n 2, 1) := by decide +kernel
theorem dX5_sit_21 : decode cX5_sit 21 = .ok (.ifCond .ne 6, 3) := by decide +kernel
theorem dX5_sit_24 : decode cX5_sit 24 = .ok (.ldc 91, 2) := by decide +kernel
theorem dX5_sit_26 : decode cX5_sit 26 = .ok (.ireturn, 1) := by decide +kernel
theorem dX5_sit_27 : decode cX5_sit 27 = .ok (.iload_n 1, 1) := by decide +kernel
theorem dX5_sit_28 : decode cX5_sit 28 = .ok (.tableswitch 55 0 2 #[28, 34, 42], 28) := by decide +kernel
theorem dX5_sit_56 : decode cX5_sit 56 = .ok (.iconst 2, 1) := by decide +kernel
theorem dX5_sit_57 : decode cX5_sit 57 = .ok (.iload_n 2, 1) := by decide +kernel
theorem dX5_sit_58 : decode cX5_sit 58 = .ok (.imul, 1) := by decide +kernel
theorem dX5_sit_59 : decode cX5_sit 59 = .ok (.iconst 1, 1) := by decide +kernel
theorem dX5_sit_60 : decode cX5_sit 60 = .ok (.isub, 1) := by decide +kernel
theorem dX5_sit_61 : decode cX5_sit 61 = .ok (.ireturn, 1) := by decide +kernel
theorem dX5_sit_62 : decode cX5_sit 62 = .ok (.iload_n 2, 1) := by decide +kernel
theorem dX5_sit_63 : decode cX5_sit 63 = .ok (.iload_n 2, 1) := by decide +kernel
theorem dX5_sit_64 : decode cX5_sit 64 = .ok (.iconst 1, 1) := by decide +kernel
theorem dX5_sit_65 : decode cX5_sit 65 = .ok (.iadd, 1) := by decide +kernel
theorem dX5_sit_66 : decode cX5_sit 66 = .ok (.imul, 1) := by decide +kernel
theorem dX5_sit_67 : decode cX5_sit 67 = .ok (.iconst 2, 1) := by decide +kernel
theorem dX5_sit_68 : decode cX5_sit 68 = .ok (.idiv, 1) := by decide +kernel
theorem dX5_sit_69 : decode cX5_sit 69 = .ok (.ireturn, 1) := by decide +kernel
theorem dX5_sit_70 : decode cX5_sit 70 = .ok (.iload_n 2, 1) := by decide +kernel
theorem dX5_sit_71 : decode cX5_sit 71 = .ok (.invokestatic 179, 3) := by decide +kernel
theorem dX5_sit_74 : decode cX5_sit 74 = .ok (.ldc2_w 183, 3) := by decide +kernel
theorem dX5_sit_77 : decode cX5_sit 77 = .ok (.iconst 1, 1) := by decide +kernel
theorem dX5_sit_78 : decode cX5_sit 78 = .ok (.invokestatic 185, 3) := by decide +kernel
theorem dX5_sit_81 : decode cX5_sit 81 = .ok (.l2i, 1) := by decide +kernel
theorem dX5_sit_82 : decode cX5_sit 82 = .ok (.ireturn, 1) := by decide +kernel
theorem dX5_sit_83 : decode cX5_sit 83 = .ok (.iload_n 2, 1) := by decide +kernel
theorem dX5_sit_84 : decode cX5_sit 84 = .ok (.invokestatic 179, 3) := by decide +kernel
theorem dX5_sit_87 : decode cX5_sit 87 = .ok (.ldc2_w 183, 3) := by decide +kernel
theorem dX5_sit_90 : decode cX5_sit 90 = .ok (.iconst 0, 1) := by decide +kernel
theorem dX5_sit_91 : decode cX5_sit 91 = .ok (.invokestatic 185, 3) := by decide +kernel
theorem dX5_sit_94 : decode cX5_sit 94 = .ok (.l2i, 1) := by decide +kernel
theorem dX5_sit_95 : decode cX5_sit 95 = .ok (.ireturn, 1) := by decide +kernel
theorem dX5_chance_0 : decode cX5_chance 0 = .ok (.iload_n 1, 1) := by decide +kernel
theorem dX5_chance_1 : decode cX5_chance 1 = .ok (.iconst 1, 1) := by decide +kernel
theorem dX5_chance_2 : decode cX5_chance 2 = .ok (.iconst 5, 1) := by decide +kernel
theorem dX5_chance_3 : decode cX5_chance 3 = .ok (.invokestatic 52, 3) := by decide +kernel
theorem dX5_chance_6 : decode cX5_chance 6 = .ok (.ifCond .eq 31, 3) := by decide +kernel
theorem dX5_chance_9 : decode cX5_chance 9 = .ok (.iload_n 2, 1) := by decide +kernel
theorem dX5_chance_10 : decode cX5_chance 10 = .ok (.iconst 1, 1) := by decide +kernel
theorem dX5_chance_11 : decode cX5_chance 11 = .ok (.iconst 3, 1) := by decide +kernel
theorem dX5_chance_12 : decode cX5_chance 12 = .ok (.invokestatic 52, 3) := by decide +kernel
theorem dX5_chance_15 : decode cX5_chance 15 = .ok (.ifCond .eq 22, 3) := by decide +kernel
theorem dX5_chance_18 : decode cX5_chance 18 = .ok (.iload_n 3, 1) := by decide +kernel
theorem dX5_chance_19 : decode cX5_chance 19 = .ok (.iconst 0, 1) := by decide +kernel
theorem dX5_chance_20 : decode cX5_chance 20 = .ok (.iconst 4, 1) := by decide +kernel
theorem dX5_chance_21 : decode cX5_chance 21 = .ok (.invokestatic 52, 3) := by decide +kernel
theorem dX5_chance_24 : decode cX5_chance 24 = .ok (.ifCond .eq 13, 3) := by decide +kernel
theorem dX5_chance_27 : decode cX5_chance 27 = .ok (.iload 4, 2) := by decide +kernel
theorem dX5_chance_29 : decode cX5_chance 29 = .ok (.iconst 0, 1) := by decide +kernel
theorem dX5_chance_30 : decode cX5_chance 30 = .ok (.iconst 1, 1) := by decide +kernel
theorem dX5_chance_31 : decode cX5_chance 31 = .ok (.invokestatic 52, 3) := by decide +kernel
theorem dX5_chance_34 : decode cX5_chance 34 = .ok (.ifCond .ne 7, 3) := by decide +kernel
theorem dX5_chance_37 : decode cX5_chance 37 = .ok (.ldc2_w 189, 3) := by decide +kernel
theorem dX5_chance_40 : decode cX5_chance 40 = .ok (.lreturn, 1) := by decide +kernel
theorem dX5_chance_41 : decode cX5_chance 41 = .ok (.iload_n 1, 1) := by decide +kernel
theorem dX5_chance_42 : decode cX5_chance 42 = .ok (.iload_n 2, 1) := by decide +kernel
theorem dX5_chance_43 : decode cX5_chance 43 = .ok (.iload_n 3, 1) := by decide +kernel
theorem dX5_chance_44 : decode cX5_chance 44 = .ok (.invokestatic 191, 3) := by decide +kernel
theorem dX5_chance_47 : decode cX5_chance 47 = .ok (.iload_n 2, 1) := by decide +kernel
theorem dX5_chance_48 : decode cX5_chance 48 = .ok (.i2l, 1) := by decide +kernel
theorem dX5_chance_49 : decode cX5_chance 49 = .ok (.iconst 5, 1) := by decide +kernel
theorem dX5_chance_50 : decode cX5_chance 50 = .ok (.iload_n 3, 1) := by decide +kernel
theorem dX5_chance_51 : decode cX5_chance 51 = .ok (.imul, 1) := by decide +kernel
theorem dX5_chance_52 : decode cX5_chance 52 = .ok (.invokestatic 195, 3) := by decide +kernel
theorem dX5_chance_55 : decode cX5_chance 55 = .ok (.iload 4, 2) := by decide +kernel
theorem dX5_chance_57 : decode cX5_chance 57 = .ok (.ifCond .ne 7, 3) := by decide +kernel
theorem dX5_chance_60 : decode cX5_chance 60 = .ok (.iconst 1, 1) := by decide +kernel
theorem dX5_chance_61 : decode cX5_chance 61 = .ok (.goto 4, 3) := by decide +kernel
theorem dX5_chance_64 : decode cX5_chance 64 = .ok (.iconst 0, 1) := by decide +kernel
theorem dX5_chance_65 : decode cX5_chance 65 = .ok (.invokestatic 185, 3) := by decide +kernel
theorem dX5_chance_68 : decode cX5_chance 68 = .ok (.lreturn, 1) := by decide +kernel
theorem dX5_count_0 : decode cX5_count 0 = .ok (.iload_n 1, 1) := by decide +kernel
theorem dX5_count_1 : decode cX5_count 1 = .ok (.tableswitch 152 0 10 #[59, 67, 75, 83, 92, 101, 110, 119, 128, 136, 144], 59) := by decide +kernel
theorem dX5_count_60 : decode cX5_count 60 = .ok (.aload_n 0, 1) := by decide +kernel
theorem dX5_count_61 : decode cX5_count 61 = .ok (.getfield 19, 3) := by decide +kernel
theorem dX5_count_64 : decode cX5_count 64 = .ok (.getfield 80, 3) := by decide +kernel
theorem dX5_count_67 : decode cX5_count 67 = .ok (.ireturn, 1) := by decide +kernel
theorem dX5_count_68 : decode cX5_count 68 = .ok (.aload_n 0, 1) := by decide +kernel
theorem dX5_count_69 : decode cX5_count 69 = .ok (.getfield 31, 3) := by decide +kernel
theorem dX5_count_72 : decode cX5_count 72 = .ok (.getfield 199, 3) := by decide +kernel
theorem dX5_count_75 : decode cX5_count 75 = .ok (.ireturn, 1) := by decide +kernel
theorem dX5_count_76 : decode cX5_count 76 = .ok (.aload_n 0, 1) := by decide +kernel
theorem dX5_count_77 : decode cX5_count 77 = .ok (.getfield 31, 3) := by decide +kernel
theorem dX5_count_80 : decode cX5_count 80 = .ok (.getfield 124, 3) := by decide +kernel
theorem dX5_count_83 : decode cX5_count 83 = .ok (.ireturn, 1) := by decide +kernel
theorem dX5_count_84 : decode cX5_count 84 = .ok (.aload_n 0, 1) := by decide +kernel
theorem dX5_count_85 : decode cX5_count 85 = .ok (.getfield 31, 3) := by decide +kernel
theorem dX5_count_88 : decode cX5_count 88 = .ok (.iconst 0, 1) := by decide +kernel
theorem dX5_count_89 : decode cX5_count 89 = .ok (.invokevirtual 154, 3) := by decide +kernel
theorem dX5_count_92 : decode cX5_count 92 = .ok (.ireturn, 1) := by decide +kernel
theorem dX5_count_93 : decode cX5_count 93 = .ok (.aload_n 0, 1) := by decide +kernel
theorem dX5_count_94 : decode cX5_count 94 = .ok (.getfield 31, 3) := by decide +kernel
theorem dX5_count_97 : decode cX5_count 97 = .ok (.iconst 1, 1) := by decide +kernel
theorem dX5_count_98 : decode cX5_count 98 = .ok (.invokevirtual 154, 3) := by decide +kernel
theorem dX5_count_101 : decode cX5_count 101 = .ok (.ireturn, 1) := by decide +kernel
theorem dX5_count_102 : decode cX5_count 102 = .ok (.aload_n 0, 1) := by decide +kernel
theorem dX5_count_103 : decode cX5_count 103 = .ok (.getfield 31, 3) := by decide +kernel
theorem dX5_count_106 : decode cX5_count 106 = .ok (.iconst 2, 1) := by decide +kernel
theorem dX5_count_107 : decode cX5_count 107 = .ok (.invokevirtual 154, 3) := by decide +kernel
theorem dX5_count_110 : decode cX5_count 110 = .ok (.ireturn, 1) := by decide +kernel
theorem dX5_count_111 : decode cX5_count 111 = .ok (.aload_n 0, 1) := by decide +kernel
theorem dX5_count_112 : decode cX5_count 112 = .ok (.getfield 31, 3) := by decide +kernel
theorem dX5_count_115 : decode cX5_count 115 = .ok (.iconst 3, 1) := by decide +kernel
theorem dX5_count_116 : decode cX5_count 116 = .ok (.invokevirtual 154, 3) := by decide +kernel
theorem dX5_count_119 : decode cX5_count 119 = .ok (.ireturn, 1) := by decide +kernel
theorem dX5_count_120 : decode cX5_count 120 = .ok (.aload_n 0, 1) := by decide +kernel
theorem dX5_count_121 : decode cX5_count 121 = .ok (.getfield 31, 3) := by decide +kernel
theorem dX5_count_124 : decode cX5_count 124 = .ok (.iconst 4, 1) := by decide +kernel
theorem dX5_count_125 : decode cX5_count 125 = .ok (.invokevirtual 154, 3) := by decide +kernel
theorem dX5_count_128 : decode cX5_count 128 = .ok (.ireturn, 1) := by decide +kernel
theorem dX5_count_129 : decode cX5_count 129 = .ok (.aload_n 0, 1) := by decide +kernel
theorem dX5_count_130 : decode cX5_count 130 = .ok (.getfield 31, 3) := by decide +kernel
theorem dX5_count_133 : decode cX5_count 133 = .ok (.invokevirtual 150, 3) := by decide +kernel
theorem dX5_count_136 : decode cX5_count 136 = .ok (.ireturn, 1) := by decide +kernel
theorem dX5_count_137 : decode cX5_count 137 = .ok (.aload_n 0, 1) := by decide +kernel
theorem dX5_count_138 : decode cX5_count 138 = .ok (.getfield 41, 3) := by decide +kernel
theorem dX5_count_141 : decode cX5_count 141 = .ok (.getfield 135, 3) := by decide +kernel
theorem dX5_count_144 : decode cX5_count 144 = .ok (.ireturn, 1) := by decide +kernel
theorem dX5_count_145 : decode cX5_count 145 = .ok (.aload_n 0, 1) := by decide +kernel
theorem dX5_count_146 : decode cX5_count 146 = .ok (.getfield 10, 3) := by decide +kernel
theorem dX5_count_149 : decode cX5_count 149 = .ok (.getfield 61, 3) := by decide +kernel
theorem dX5_count_152 : decode cX5_count 152 = .ok (.ireturn, 1) := by decide +kernel
theorem dX5_count_153 : decode cX5_count 153 = .ok (.ldc 56, 2) := by decide +kernel
theorem dX5_count_155 : decode cX5_count 155 = .ok (.ireturn, 1) := by decide +kernel
theorem dX5_within_0 : decode cX5_within 0 = .ok (.iload_n 0, 1) := by decide +kernel
theorem dX5_within_1 : decode cX5_within 1 = .ok (.iload_n 1, 1) := by decide +kernel
theorem dX5_within_2 : decode cX5_within 2 = .ok (.if_icmp .lt 12, 3) := by decide +kernel
theorem dX5_within_5 : decode cX5_within 5 = .ok (.iload_n 0, 1) := by decide +kernel
theorem dX5_within_6 : decode cX5_within 6 = .ok (.iload_n 2, 1) := by decide +kernel
theorem dX5_within_7 : decode cX5_within 7 = .ok (.if_icmp .gt 7, 3) := by decide +kernel
theorem dX5_within_10 : decode cX5_within 10 = .ok (.iconst 1, 1) := by decide +kernel
theorem dX5_within_11 : decode cX5_within 11 = .ok (.goto 4, 3) := by decide +kernel
theorem dX5_within_14 : decode cX5_within 14 = .ok (.iconst 0, 1) := by decide +kernel
theorem dX5_within_15 : decode cX5_within 15 = .ok (.ireturn, 1) := by decide +kernel
theorem dX5_following_0 : decode cX5_following 0 = .ok (.iload_n 0, 1) := by decide +kernel
theorem dX5_following_1 : decode cX5_following 1 = .ok (.i2l, 1) := by decide +kernel
theorem dX5_following_2 : decode cX5_following 2 = .ok (.ldc2_w 202, 3) := by decide +kernel
theorem dX5_following_5 : decode cX5_following 5 = .ok (.lmul, 1) := by decide +kernel
theorem dX5_following_6 : decode cX5_following 6 = .ok (.ldc2_w 204, 3) := by decide +kernel
theorem dX5_following_9 : decode cX5_following 9 = .ok (.lrem, 1) := by decide +kernel
theorem dX5_following_10 : decode cX5_following 10 = .ok (.l2i, 1) := by decide +kernel
theorem dX5_following_11 : decode cX5_following 11 = .ok (.ireturn, 1) := by decide +kernel
theorem dX5_sixtiethsOfMean_0 : decode cX5_sixtiethsOfMean 0 = .ok (.lconst 0, 1) := by decide +kernel
theorem dX5_sixtiethsOfMean_1 : decode cX5_sixtiethsOfMean 1 = .ok (.lstore_n 1, 1) := by decide +kernel
theorem dX5_sixtiethsOfMean_2 : decode cX5_sixtiethsOfMean 2 = .ok (.iconst 1, 1) := by decide +kernel
theorem dX5_sixtiethsOfMean_3 : decode cX5_sixtiethsOfMean 3 = .ok (.istore_n 3, 1) := by decide +kernel
theorem dX5_sixtiethsOfMean_4 : decode cX5_sixtiethsOfMean 4 = .ok (.iload_n 3, 1) := by decide +kernel
theorem dX5_sixtiethsOfMean_5 : decode cX5_sixtiethsOfMean 5 = .ok (.bipush 6, 2) := by decide +kernel
theorem dX5_sixtiethsOfMean_7 : decode cX5_sixtiethsOfMean 7 = .ok (.if_icmp .gt 28, 3) := by decide +kernel
theorem dX5_sixtiethsOfMean_10 : decode cX5_sixtiethsOfMean 10 = .ok (.lload_n 1, 1) := by decide +kernel
theorem dX5_sixtiethsOfMean_11 : decode cX5_sixtiethsOfMean 11 = .ok (.iload_n 3, 1) := by decide +kernel
theorem dX5_sixtiethsOfMean_12 : decode cX5_sixtiethsOfMean 12 = .ok (.iload_n 0, 1) := by decide +kernel
theorem dX5_sixtiethsOfMean_13 : decode cX5_sixtiethsOfMean 13 = .ok (.if_icmp .gt 13, 3) := by decide +kernel
theorem dX5_sixtiethsOfMean_16 : decode cX5_sixtiethsOfMean 16 = .ok (.iload_n 0, 1) := by decide +kernel
theorem dX5_sixtiethsOfMean_17 : decode cX5_sixtiethsOfMean 17 = .ok (.bipush 60, 2) := by decide +kernel
theorem dX5_sixtiethsOfMean_19 : decode cX5_sixtiethsOfMean 19 = .ok (.imul, 1) := by decide +kernel
theorem dX5_sixtiethsOfMean_20 : decode cX5_sixtiethsOfMean 20 = .ok (.iload_n 3, 1) := by decide +kernel
theorem dX5_sixtiethsOfMean_21 : decode cX5_sixtiethsOfMean 21 = .ok (.idiv, 1) := by decide +kernel
theorem dX5_sixtiethsOfMean_22 : decode cX5_sixtiethsOfMean 22 = .ok (.i2l, 1) := by decide +kernel
theorem dX5_sixtiethsOfMean_23 : decode cX5_sixtiethsOfMean 23 = .ok (.goto 4, 3) := by decide +kernel
theorem dX5_sixtiethsOfMean_26 : decode cX5_sixtiethsOfMean 26 = .ok (.lconst 0, 1) := by decide +kernel
theorem dX5_sixtiethsOfMean_27 : decode cX5_sixtiethsOfMean 27 = .ok (.ladd, 1) := by decide +kernel
theorem dX5_sixtiethsOfMean_28 : decode cX5_sixtiethsOfMean 28 = .ok (.lstore_n 1, 1) := by decide +kernel
theorem dX5_sixtiethsOfMean_29 : decode cX5_sixtiethsOfMean 29 = .ok (.iinc 3 1, 3) := by decide +kernel
theorem dX5_sixtiethsOfMean_32 : decode cX5_sixtiethsOfMean 32 = .ok (.goto (-28), 3) := by decide +kernel
theorem dX5_sixtiethsOfMean_35 : decode cX5_sixtiethsOfMean 35 = .ok (.lload_n 1, 1) := by decide +kernel
theorem dX5_sixtiethsOfMean_36 : decode cX5_sixtiethsOfMean 36 = .ok (.lreturn, 1) := by decide +kernel
theorem dX5_waysToOne_0 : decode cX5_waysToOne 0 = .ok (.bipush 6, 2) := by decide +kernel
theorem dX5_waysToOne_2 : decode cX5_waysToOne 2 = .ok (.newarray .long, 2) := by decide +kernel
theorem dX5_waysToOne_4 : decode cX5_waysToOne 4 = .ok (.dup, 1) := by decide +kernel
theorem dX5_waysToOne_5 : decode cX5_waysToOne 5 = .ok (.iconst 0, 1) := by decide +kernel
theorem dX5_waysToOne_6 : decode cX5_waysToOne 6 = .ok (.lconst 0, 1) := by decide +kernel
theorem dX5_waysToOne_7 : decode cX5_waysToOne 7 = .ok (.lastore, 1) := by decide +kernel
theorem dX5_waysToOne_8 : decode cX5_waysToOne 8 = .ok (.dup, 1) := by decide +kernel
theorem dX5_waysToOne_9 : decode cX5_waysToOne 9 = .ok (.iconst 1, 1) := by decide +kernel
theorem dX5_waysToOne_10 : decode cX5_waysToOne 10 = .ok (.lconst 1, 1) := by decide +kernel
theorem dX5_waysToOne_11 : decode cX5_waysToOne 11 = .ok (.lastore, 1) := by decide +kernel
theorem dX5_waysToOne_12 : decode cX5_waysToOne 12 = .ok (.dup, 1) := by decide +kernel
theorem dX5_waysToOne_13 : decode cX5_waysToOne 13 = .ok (.iconst 2, 1) := by decide +kernel
theorem dX5_waysToOne_14 : decode cX5_waysToOne 14 = .ok (.lconst 0, 1) := by decide +kernel
theorem dX5_waysToOne_15 : decode cX5_waysToOne 15 = .ok (.lastore, 1) := by decide +kernel
theorem dX5_waysToOne_16 : decode cX5_waysToOne 16 = .ok (.dup, 1) := by decide +kernel
theorem dX5_waysToOne_17 : decode cX5_waysToOne 17 = .ok (.iconst 3, 1) := by decide +kernel
theorem dX5_waysToOne_18 : decode cX5_waysToOne 18 = .ok (.lconst 0, 1) := by decide +kernel
theorem dX5_waysToOne_19 : decode cX5_waysToOne 19 = .ok (.lastore, 1) := by decide +kernel
theorem dX5_waysToOne_20 : decode cX5_waysToOne 20 = .ok (.dup, 1) := by decide +kernel
theorem dX5_waysToOne_21 : decode cX5_waysToOne 21 = .ok (.iconst 4, 1) := by decide +kernel
theorem dX5_waysToOne_22 : decode cX5_waysToOne 22 = .ok (.lconst 0, 1) := by decide +kernel
theorem dX5_waysToOne_23 : decode cX5_waysToOne 23 = .ok (.lastore, 1) := by decide +kernel
theorem dX5_waysToOne_24 : decode cX5_waysToOne 24 = .ok (.dup, 1) := by decide +kernel
theorem dX5_waysToOne_25 : decode cX5_waysToOne 25 = .ok (.iconst 5, 1) := by decide +kernel
theorem dX5_waysToOne_26 : decode cX5_waysToOne 26 = .ok (.lconst 0, 1) := by decide +kernel
theorem dX5_waysToOne_27 : decode cX5_waysToOne 27 = .ok (.lastore, 1) := by decide +kernel
theorem dX5_waysToOne_28 : decode cX5_waysToOne 28 = .ok (.astore_n 3, 1) := by decide +kernel
theorem dX5_waysToOne_29 : decode cX5_waysToOne 29 = .ok (.iconst 1, 1) := by decide +kernel
theorem dX5_waysToOne_30 : decode cX5_waysToOne 30 = .ok (.istore 4, 2) := by decide +kernel
theorem dX5_waysToOne_32 : decode cX5_waysToOne 32 = .ok (.iload 4, 2) := by decide +kernel
theorem dX5_waysToOne_34 : decode cX5_waysToOne 34 = .ok (.iload_n 2, 1) := by decide +kernel
theorem dX5_waysToOne_35 : decode cX5_waysToOne 35 = .ok (.if_icmp .gt 87, 3) := by decide +kernel
theorem dX5_waysToOne_38 : decode cX5_waysToOne 38 = .ok (.bipush 6, 2) := by decide +kernel
theorem dX5_waysToOne_40 : decode cX5_waysToOne 40 = .ok (.newarray .long, 2) := by decide +kernel
theorem dX5_waysToOne_42 : decode cX5_waysToOne 42 = .ok (.astore 5, 2) := by decide +kernel
theorem dX5_waysToOne_44 : decode cX5_waysToOne 44 = .ok (.iconst 1, 1) := by decide +kernel
theorem dX5_waysToOne_45 : decode cX5_waysToOne 45 = .ok (.istore 6, 2) := by decide +kernel
theorem dX5_waysToOne_47 : decode cX5_waysToOne 47 = .ok (.iload 6, 2) := by decide +kernel
theorem dX5_waysToOne_49 : decode cX5_waysToOne 49 = .ok (.iconst 5, 1) := by decide +kernel
theorem dX5_waysToOne_50 : decode cX5_waysToOne 50 = .ok (.if_icmp .gt 63, 3) := by decide +kernel
theorem dX5_waysToOne_53 : decode cX5_waysToOne 53 = .ok (.lconst 0, 1) := by decide +kernel
theorem dX5_waysToOne_54 : decode cX5_waysToOne 54 = .ok (.lstore 7, 2) := by decide +kernel
theorem dX5_waysToOne_56 : decode cX5_waysToOne 56 = .ok (.iconst 1, 1) := by decide +kernel
theorem dX5_waysToOne_57 : decode cX5_waysToOne 57 = .ok (.istore 9, 2) := by decide +kernel
theorem dX5_waysToOne_59 : decode cX5_waysToOne 59 = .ok (.iload 9, 2) := by decide +kernel
theorem dX5_waysToOne_61 : decode cX5_waysToOne 61 = .ok (.iload 6, 2) := by decide +kernel
theorem dX5_waysToOne_63 : decode cX5_waysToOne 63 = .ok (.if_icmp .gt 27, 3) := by decide +kernel
theorem dX5_waysToOne_66 : decode cX5_waysToOne 66 = .ok (.lload 7, 2) := by decide +kernel
theorem dX5_waysToOne_68 : decode cX5_waysToOne 68 = .ok (.iload 6, 2) := by decide +kernel
theorem dX5_waysToOne_70 : decode cX5_waysToOne 70 = .ok (.iload 9, 2) := by decide +kernel
theorem dX5_waysToOne_72 : decode cX5_waysToOne 72 = .ok (.iload_n 1, 1) := by decide +kernel
theorem dX5_waysToOne_73 : decode cX5_waysToOne 73 = .ok (.invokestatic 206, 3) := by decide +kernel
theorem dX5_waysToOne_76 : decode cX5_waysToOne 76 = .ok (.aload_n 3, 1) := by decide +kernel
theorem dX5_waysToOne_77 : decode cX5_waysToOne 77 = .ok (.iload 9, 2) := by decide +kernel
theorem dX5_waysToOne_79 : decode cX5_waysToOne 79 = .ok (.laload, 1) := by decide +kernel
theorem dX5_waysToOne_80 : decode cX5_waysToOne 80 = .ok (.lmul, 1) := by decide +kernel
theorem dX5_waysToOne_81 : decode cX5_waysToOne 81 = .ok (.ladd, 1) := by decide +kernel
theorem dX5_waysToOne_82 : decode cX5_waysToOne 82 = .ok (.lstore 7, 2) := by decide +kernel
theorem dX5_waysToOne_84 : decode cX5_waysToOne 84 = .ok (.iinc 9 1, 3) := by decide +kernel
theorem dX5_waysToOne_87 : decode cX5_waysToOne 87 = .ok (.goto (-28), 3) := by decide +kernel
theorem dX5_waysToOne_90 : decode cX5_waysToOne 90 = .ok (.aload 5, 2) := by decide +kernel
theorem dX5_waysToOne_92 : decode cX5_waysToOne 92 = .ok (.iload 6, 2) := by decide +kernel
theorem dX5_waysToOne_94 : decode cX5_waysToOne 94 = .ok (.lload 7, 2) := by decide +kernel
theorem dX5_waysToOne_96 : decode cX5_waysToOne 96 = .ok (.iload_n 1, 1) := by decide +kernel
theorem dX5_waysToOne_97 : decode cX5_waysToOne 97 = .ok (.i2l, 1) := by decide +kernel
theorem dX5_waysToOne_98 : decode cX5_waysToOne 98 = .ok (.iconst 5, 1) := by decide +kernel
theorem dX5_waysToOne_99 : decode cX5_waysToOne 99 = .ok (.iload 6, 2) := by decide +kernel
theorem dX5_waysToOne_101 : decode cX5_waysToOne 101 = .ok (.isub, 1) := by decide +kernel
theorem dX5_waysToOne_102 : decode cX5_waysToOne 102 = .ok (.invokestatic 195, 3) := by decide +kernel
theorem dX5_waysToOne_105 : decode cX5_waysToOne 105 = .ok (.lmul, 1) := by decide +kernel
theorem dX5_waysToOne_106 : decode cX5_waysToOne 106 = .ok (.lastore, 1) := by decide +kernel
theorem dX5_waysToOne_107 : decode cX5_waysToOne 107 = .ok (.iinc 6 1, 3) := by decide +kernel
theorem dX5_waysToOne_110 : decode cX5_waysToOne 110 = .ok (.goto (-63), 3) := by decide +kernel
theorem dX5_waysToOne_113 : decode cX5_waysToOne 113 = .ok (.aload 5, 2) := by decide +kernel
theorem dX5_waysToOne_115 : decode cX5_waysToOne 115 = .ok (.astore_n 3, 1) := by decide +kernel
theorem dX5_waysToOne_116 : decode cX5_waysToOne 116 = .ok (.iinc 4 1, 3) := by decide +kernel
theorem dX5_waysToOne_119 : decode cX5_waysToOne 119 = .ok (.goto (-87), 3) := by decide +kernel
theorem dX5_waysToOne_122 : decode cX5_waysToOne 122 = .ok (.iload_n 0, 1) := by decide +kernel
theorem dX5_waysToOne_123 : decode cX5_waysToOne 123 = .ok (.iconst 1, 1) := by decide +kernel
theorem dX5_waysToOne_124 : decode cX5_waysToOne 124 = .ok (.if_icmp .lt 15, 3) := by decide +kernel
theorem dX5_waysToOne_127 : decode cX5_waysToOne 127 = .ok (.iload_n 0, 1) := by decide +kernel
theorem dX5_waysToOne_128 : decode cX5_waysToOne 128 = .ok (.aload_n 3, 1) := by decide +kernel
theorem dX5_waysToOne_129 : decode cX5_waysToOne 129 = .ok (.arraylength, 1) := by decide +kernel
theorem dX5_waysToOne_130 : decode cX5_waysToOne 130 = .ok (.if_icmp .ge 9, 3) := by decide +kernel
theorem dX5_waysToOne_133 : decode cX5_waysToOne 133 = .ok (.aload_n 3, 1) := by decide +kernel
theorem dX5_waysToOne_134 : decode cX5_waysToOne 134 = .ok (.iload_n 0, 1) := by decide +kernel
theorem dX5_waysToOne_135 : decode cX5_waysToOne 135 = .ok (.laload, 1) := by decide +kernel
theorem dX5_waysToOne_136 : decode cX5_waysToOne 136 = .ok (.goto 4, 3) := by decide +kernel
theorem dX5_waysToOne_139 : decode cX5_waysToOne 139 = .ok (.lconst 0, 1) := by decide +kernel
theorem dX5_waysToOne_140 : decode cX5_waysToOne 140 = .ok (.lreturn, 1) := by decide +kernel
theorem dX5_waysToLeave_0 : decode cX5_waysToLeave 0 = .ok (.lconst 0, 1) := by decide +kernel
theorem dX5_waysToLeave_1 : decode cX5_waysToLeave 1 = .ok (.lstore_n 3, 1) := by decide +kernel
theorem dX5_waysToLeave_2 : decode cX5_waysToLeave 2 = .ok (.iconst 1, 1) := by decide +kernel
theorem dX5_waysToLeave_3 : decode cX5_waysToLeave 3 = .ok (.istore 5, 2) := by decide +kernel
theorem dX5_waysToLeave_5 : decode cX5_waysToLeave 5 = .ok (.iload 5, 2) := by decide +kernel
theorem dX5_waysToLeave_7 : decode cX5_waysToLeave 7 = .ok (.iload_n 2, 1) := by decide +kernel
theorem dX5_waysToLeave_8 : decode cX5_waysToLeave 8 = .ok (.if_icmp .gt 23, 3) := by decide +kernel
theorem dX5_waysToLeave_11 : decode cX5_waysToLeave 11 = .ok (.lload_n 3, 1) := by decide +kernel
theorem dX5_waysToLeave_12 : decode cX5_waysToLeave 12 = .ok (.iload 5, 2) := by decide +kernel
theorem dX5_waysToLeave_14 : decode cX5_waysToLeave 14 = .ok (.iconst 1, 1) := by decide +kernel
theorem dX5_waysToLeave_15 : decode cX5_waysToLeave 15 = .ok (.isub, 1) := by decide +kernel
theorem dX5_waysToLeave_16 : decode cX5_waysToLeave 16 = .ok (.i2l, 1) := by decide +kernel
theorem dX5_waysToLeave_17 : decode cX5_waysToLeave 17 = .ok (.iload_n 0, 1) := by decide +kernel
theorem dX5_waysToLeave_18 : decode cX5_waysToLeave 18 = .ok (.iload_n 1, 1) := by decide +kernel
theorem dX5_waysToLeave_19 : decode cX5_waysToLeave 19 = .ok (.isub, 1) := by decide +kernel
theorem dX5_waysToLeave_20 : decode cX5_waysToLeave 20 = .ok (.invokestatic 195, 3) := by decide +kernel
theorem dX5_waysToLeave_23 : decode cX5_waysToLeave 23 = .ok (.ladd, 1) := by decide +kernel
theorem dX5_waysToLeave_24 : decode cX5_waysToLeave 24 = .ok (.lstore_n 3, 1) := by decide +kernel
theorem dX5_waysToLeave_25 : decode cX5_waysToLeave 25 = .ok (.iinc 5 1, 3) := by decide +kernel
theorem dX5_waysToLeave_28 : decode cX5_waysToLeave 28 = .ok (.goto (-23), 3) := by decide +kernel
theorem dX5_waysToLeave_31 : decode cX5_waysToLeave 31 = .ok (.lload_n 3, 1) := by decide +kernel
theorem dX5_waysToLeave_32 : decode cX5_waysToLeave 32 = .ok (.iload_n 0, 1) := by decide +kernel
theorem dX5_waysToLeave_33 : decode cX5_waysToLeave 33 = .ok (.iload_n 1, 1) := by decide +kernel
theorem dX5_waysToLeave_34 : decode cX5_waysToLeave 34 = .ok (.invokestatic 209, 3) := by decide +kernel
theorem dX5_waysToLeave_37 : decode cX5_waysToLeave 37 = .ok (.lmul, 1) := by decide +kernel
theorem dX5_waysToLeave_38 : decode cX5_waysToLeave 38 = .ok (.lreturn, 1) := by decide +kernel
theorem dX5_choices_0 : decode cX5_choices 0 = .ok (.lconst 1, 1) := by decide +kernel
theorem dX5_choices_1 : decode cX5_choices 1 = .ok (.lstore_n 2, 1) := by decide +kernel
theorem dX5_choices_2 : decode cX5_choices 2 = .ok (.iconst 1, 1) := by decide +kernel
theorem dX5_choices_3 : decode cX5_choices 3 = .ok (.istore 4, 2) := by decide +kernel
theorem dX5_choices_5 : decode cX5_choices 5 = .ok (.iload 4, 2) := by decide +kernel
theorem dX5_choices_7 : decode cX5_choices 7 = .ok (.iload_n 1, 1) := by decide +kernel
theorem dX5_choices_8 : decode cX5_choices 8 = .ok (.if_icmp .gt 23, 3) := by decide +kernel
theorem dX5_choices_11 : decode cX5_choices 11 = .ok (.lload_n 2, 1) := by decide +kernel
theorem dX5_choices_12 : decode cX5_choices 12 = .ok (.iload_n 0, 1) := by decide +kernel
theorem dX5_choices_13 : decode cX5_choices 13 = .ok (.iload_n 1, 1) := by decide +kernel
theorem dX5_choices_14 : decode cX5_choices 14 = .ok (.isub, 1) := by decide +kernel
theorem dX5_choices_15 : decode cX5_choices 15 = .ok (.iload 4, 2) := by decide +kernel
theorem dX5_choices_17 : decode cX5_choices 17 = .ok (.iadd, 1) := by decide +kernel
theorem dX5_choices_18 : decode cX5_choices 18 = .ok (.i2l, 1) := by decide +kernel
theorem dX5_choices_19 : decode cX5_choices 19 = .ok (.lmul, 1) := by decide +kernel
theorem dX5_choices_20 : decode cX5_choices 20 = .ok (.iload 4, 2) := by decide +kernel
theorem dX5_choices_22 : decode cX5_choices 22 = .ok (.i2l, 1) := by decide +kernel
theorem dX5_choices_23 : decode cX5_choices 23 = .ok (.ldiv, 1) := by decide +kernel
theorem dX5_choices_24 : decode cX5_choices 24 = .ok (.lstore_n 2, 1) := by decide +kernel
theorem dX5_choices_25 : decode cX5_choices 25 = .ok (.iinc 4 1, 3) := by decide +kernel
theorem dX5_choices_28 : decode cX5_choices 28 = .ok (.goto (-23), 3) := by decide +kernel
theorem dX5_choices_31 : decode cX5_choices 31 = .ok (.lload_n 2, 1) := by decide +kernel
theorem dX5_choices_32 : decode cX5_choices 32 = .ok (.lreturn, 1) := by decide +kernel
theorem dX5_power_0 : decode cX5_power 0 = .ok (.lconst 1, 1) := by decide +kernel
theorem dX5_power_1 : decode cX5_power 1 = .ok (.lstore_n 3, 1) := by decide +kernel
theorem dX5_power_2 : decode cX5_power 2 = .ok (.iconst 0, 1) := by decide +kernel
theorem dX5_power_3 : decode cX5_power 3 = .ok (.istore 5, 2) := by decide +kernel
theorem dX5_power_5 : decode cX5_power 5 = .ok (.iload 5, 2) := by decide +kernel
theorem dX5_power_7 : decode cX5_power 7 = .ok (.iload_n 2, 1) := by decide +kernel
theorem dX5_power_8 : decode cX5_power 8 = .ok (.if_icmp .ge 13, 3) := by decide +kernel
theorem dX5_power_11 : decode cX5_power 11 = .ok (.lload_n 3, 1) := by decide +kernel
theorem dX5_power_12 : decode cX5_power 12 = .ok (.lload_n 0, 1) := by decide +kernel
theorem dX5_power_13 : decode cX5_power 13 = .ok (.lmul, 1) := by decide +kernel
theorem dX5_power_14 : decode cX5_power 14 = .ok (.lstore_n 3, 1) := by decide +kernel
theorem dX5_power_15 : decode cX5_power 15 = .ok (.iinc 5 1, 3) := by decide +kernel
theorem dX5_power_18 : decode cX5_power 18 = .ok (.goto (-13), 3) := by decide +kernel
theorem dX5_power_21 : decode cX5_power 21 = .ok (.lload_n 3, 1) := by decide +kernel
theorem dX5_power_22 : decode cX5_power 22 = .ok (.lreturn, 1) := by decide +kernel
theorem dX5_lowest_0 : decode cX5_lowest 0 = .ok (.lload_n 0, 1) := by decide +kernel
theorem dX5_lowest_1 : decode cX5_lowest 1 = .ok (.lload_n 2, 1) := by decide +kernel
theorem dX5_lowest_2 : decode cX5_lowest 2 = .ok (.invokestatic 213, 3) := by decide +kernel
theorem dX5_lowest_5 : decode cX5_lowest 5 = .ok (.lstore 5, 2) := by decide +kernel
theorem dX5_lowest_7 : decode cX5_lowest 7 = .ok (.iload 4, 2) := by decide +kernel
theorem dX5_lowest_9 : decode cX5_lowest 9 = .ok (.ifCond .eq 7, 3) := by decide +kernel
theorem dX5_lowest_12 : decode cX5_lowest 12 = .ok (.lload_n 0, 1) := by decide +kernel
theorem dX5_lowest_13 : decode cX5_lowest 13 = .ok (.goto 4, 3) := by decide +kernel
theorem dX5_lowest_16 : decode cX5_lowest 16 = .ok (.lload_n 2, 1) := by decide +kernel
theorem dX5_lowest_17 : decode cX5_lowest 17 = .ok (.lstore 7, 2) := by decide +kernel
theorem dX5_lowest_19 : decode cX5_lowest 19 = .ok (.lload 5, 2) := by decide +kernel
theorem dX5_lowest_21 : decode cX5_lowest 21 = .ok (.lconst 0, 1) := by decide +kernel
theorem dX5_lowest_22 : decode cX5_lowest 22 = .ok (.lcmp, 1) := by decide +kernel
theorem dX5_lowest_23 : decode cX5_lowest 23 = .ok (.ifCond .ne 8, 3) := by decide +kernel
theorem dX5_lowest_26 : decode cX5_lowest 26 = .ok (.lload 7, 2) := by decide +kernel
theorem dX5_lowest_28 : decode cX5_lowest 28 = .ok (.goto 8, 3) := by decide +kernel
theorem dX5_lowest_31 : decode cX5_lowest 31 = .ok (.lload 7, 2) := by decide +kernel
theorem dX5_lowest_33 : decode cX5_lowest 33 = .ok (.lload 5, 2) := by decide +kernel
theorem dX5_lowest_35 : decode cX5_lowest 35 = .ok (.ldiv, 1) := by decide +kernel
theorem dX5_lowest_36 : decode cX5_lowest 36 = .ok (.lreturn, 1) := by decide +kernel
theorem dX5_commonDivisor_0 : decode cX5_commonDivisor 0 = .ok (.lload_n 0, 1) := by decide +kernel
theorem dX5_commonDivisor_1 : decode cX5_commonDivisor 1 = .ok (.lstore 4, 2) := by decide +kernel
theorem dX5_commonDivisor_3 : decode cX5_commonDivisor 3 = .ok (.lload_n 2, 1) := by decide +kernel
theorem dX5_commonDivisor_4 : decode cX5_commonDivisor 4 = .ok (.lstore 6, 2) := by decide +kernel
theorem dX5_commonDivisor_6 : decode cX5_commonDivisor 6 = .ok (.iconst 0, 1) := by decide +kernel
theorem dX5_commonDivisor_7 : decode cX5_commonDivisor 7 = .ok (.istore 8, 2) := by decide +kernel
theorem dX5_commonDivisor_9 : decode cX5_commonDivisor 9 = .ok (.iload 8, 2) := by decide +kernel
theorem dX5_commonDivisor_11 : decode cX5_commonDivisor 11 = .ok (.sipush 200, 3) := by decide +kernel
theorem dX5_commonDivisor_14 : decode cX5_commonDivisor 14 = .ok (.if_icmp .ge 31, 3) := by decide +kernel
theorem dX5_commonDivisor_17 : decode cX5_commonDivisor 17 = .ok (.lload 6, 2) := by decide +kernel
theorem dX5_commonDivisor_19 : decode cX5_commonDivisor 19 = .ok (.lconst 0, 1) := by decide +kernel
theorem dX5_commonDivisor_20 : decode cX5_commonDivisor 20 = .ok (.lcmp, 1) := by decide +kernel
theorem dX5_commonDivisor_21 : decode cX5_commonDivisor 21 = .ok (.ifCond .eq 24, 3) := by decide +kernel
theorem dX5_commonDivisor_24 : decode cX5_commonDivisor 24 = .ok (.lload 4, 2) := by decide +kernel
theorem dX5_commonDivisor_26 : decode cX5_commonDivisor 26 = .ok (.lload 6, 2) := by decide +kernel
theorem dX5_commonDivisor_28 : decode cX5_commonDivisor 28 = .ok (.lrem, 1) := by decide +kernel
theorem dX5_commonDivisor_29 : decode cX5_commonDivisor 29 = .ok (.lstore 9, 2) := by decide +kernel
theorem dX5_commonDivisor_31 : decode cX5_commonDivisor 31 = .ok (.lload 6, 2) := by decide +kernel
theorem dX5_commonDivisor_33 : decode cX5_commonDivisor 33 = .ok (.lstore 4, 2) := by decide +kernel
theorem dX5_commonDivisor_35 : decode cX5_commonDivisor 35 = .ok (.lload 9, 2) := by decide +kernel
theorem dX5_commonDivisor_37 : decode cX5_commonDivisor 37 = .ok (.lstore 6, 2) := by decide +kernel
theorem dX5_commonDivisor_39 : decode cX5_commonDivisor 39 = .ok (.iinc 8 1, 3) := by decide +kernel
theorem dX5_commonDivisor_42 : decode cX5_commonDivisor 42 = .ok (.goto (-33), 3) := by decide +kernel
theorem dX5_commonDivisor_45 : decode cX5_commonDivisor 45 = .ok (.lload 4, 2) := by decide +kernel
theorem dX5_commonDivisor_47 : decode cX5_commonDivisor 47 = .ok (.lreturn, 1) := by decide +kernel
theorem dJ9_max_7cf53_0 : decode cJ9_max_7cf53 0 = .ok (.iload_n 0, 1) := by decide +kernel
theorem dJ9_max_7cf53_1 : decode cJ9_max_7cf53 1 = .ok (.iload_n 1, 1) := by decide +kernel
theorem dJ9_max_7cf53_2 : decode cJ9_max_7cf53 2 = .ok (.if_icmp .lt 7, 3) := by decide +kernel
theorem dJ9_max_7cf53_5 : decode cJ9_max_7cf53 5 = .ok (.iload_n 0, 1) := by decide +kernel
theorem dJ9_max_7cf53_6 : decode cJ9_max_7cf53 6 = .ok (.goto 4, 3) := by decide +kernel
theorem dJ9_max_7cf53_9 : decode cJ9_max_7cf53 9 = .ok (.iload_n 1, 1) := by decide +kernel
theorem dJ9_max_7cf53_10 : decode cJ9_max_7cf53 10 = .ok (.ireturn, 1) := by decide +kernel
theorem dJ9_min_7cf53_0 : decode cJ9_min_7cf53 0 = .ok (.iload_n 0, 1) := by decide +kernel
theorem dJ9_min_7cf53_1 : decode cJ9_min_7cf53 1 = .ok (.iload_n 1, 1) := by decide +kernel
theorem dJ9_min_7cf53_2 : decode cJ9_min_7cf53 2 = .ok (.if_icmp .gt 7, 3) := by decide +kernel
theorem dJ9_min_7cf53_5 : decode cJ9_min_7cf53 5 = .ok (.iload_n 0, 1) := by decide +kernel
theorem dJ9_min_7cf53_6 : decode cJ9_min_7cf53 6 = .ok (.goto 4, 3) := by decide +kernel
theorem dJ9_min_7cf53_9 : decode cJ9_min_7cf53 9 = .ok (.iload_n 1, 1) := by decide +kernel
theorem dJ9_min_7cf53_10 : decode cJ9_min_7cf53 10 = .ok (.ireturn, 1) := by decide +kernel
end
section
theorem dX6_init_0 : decode cX6_init 0 = .ok (.aload_n 0, 1) := by decide +kernel
theorem dX6_init_1 : decode cX6_init 1 = .ok (.invokespecial 1, 3) := by decide +kernel
theorem dX6_init_4 : decode cX6_init 4 = .ok (.aload_n 0, 1) := by decide +kernel
theorem dX6_init_5 : decode cX6_init 5 = .ok (.bipush 6, 2) := by decide +kernel
theorem dX6_init_7 : decode cX6_init 7 = .ok (.newarray .int, 2) := by decide +kernel
theorem dX6_init_9 : decode cX6_init 9 = .ok (.putfield 7, 3) := by decide +kernel
theorem dX6_init_12 : decode cX6_init 12 = .ok (.aload_n 0, 1) := by decide +kernel
theorem dX6_init_13 : decode cX6_init 13 = .ok (.bipush 6, 2) := by decide +kernel
theorem dX6_init_15 : decode cX6_init 15 = .ok (.newarray .int, 2) := by decide +kernel
theorem dX6_init_17 : decode cX6_init 17 = .ok (.putfield 13, 3) := by decide +kernel
theorem dX6_init_20 : decode cX6_init 20 = .ok (.aload_n 0, 1) := by decide +kernel
theorem dX6_init_21 : decode cX6_init 21 = .ok (.sipush 4200, 3) := by decide +kernel
theorem dX6_init_24 : decode cX6_init 24 = .ok (.newarray .int, 2) := by decide +kernel
theorem dX6_init_26 : decode cX6_init 26 = .ok (.putfield 16, 3) := by decide +kernel
theorem dX6_init_29 : decode cX6_init 29 = .ok (.aload_n 0, 1) := by decide +kernel
theorem dX6_init_30 : decode cX6_init 30 = .ok (.bipush 40, 2) := by decide +kernel
theorem dX6_init_32 : decode cX6_init 32 = .ok (.newarray .int, 2) := by decide +kernel
theorem dX6_init_34 : decode cX6_init 34 = .ok (.putfield 19, 3) := by decide +kernel
theorem dX6_init_37 : decode cX6_init 37 = .ok (.aload_n 0, 1) := by decide +kernel
theorem dX6_init_38 : decode cX6_init 38 = .ok (.bipush 6, 2) := by decide +kernel
theorem dX6_init_40 : decode cX6_init 40 = .ok (.newarray .int, 2) := by decide +kernel
theorem dX6_init_42 : decode cX6_init 42 = .ok (.putfield 22, 3) := by decide +kernel
theorem dX6_init_45 : decode cX6_init 45 = .ok (.aload_n 0, 1) := by decide +kernel
theorem dX6_init_46 : decode cX6_init 46 = .ok (.bipush 6, 2) := by decide +kernel
theorem dX6_init_48 : decode cX6_init 48 = .ok (.newarray .int, 2) := by decide +kernel
theorem dX6_init_50 : decode cX6_init 50 = .ok (.putfield 25, 3) := by decide +kernel
theorem dX6_init_53 : decode cX6_init 53 = .ok (.aload_n 0, 1) := by decide +kernel
theorem dX6_init_54 : decode cX6_init 54 = .ok (.iconst 4, 1) := by decide +kernel
theorem dX6_init_55 : decode cX6_init 55 = .ok (.newarray .int, 2) := by decide +kernel
theorem dX6_init_57 : decode cX6_init 57 = .ok (.putfield 28, 3) := by decide +kernel
theorem dX6_init_60 : decode cX6_init 60 = .ok (.aload_n 0, 1) := by decide +kernel
theorem dX6_init_61 : decode cX6_init 61 = .ok (.bipush 6, 2) := by decide +kernel
theorem dX6_init_63 : decode cX6_init 63 = .ok (.newarray .int, 2) := by decide +kernel
theorem dX6_init_65 : decode cX6_init 65 = .ok (.putfield 31, 3) := by decide +kernel
theorem dX6_init_68 : decode cX6_init 68 = .ok (.aload_n 0, 1) := by decide +kernel
theorem dX6_init_69 : decode cX6_init 69 = .ok (.bipush 6, 2) := by decide +kernel
theorem dX6_init_71 : decode cX6_init 71 = .ok (.newarray .long, 2) := by decide +kernel
theorem dX6_init_73 : decode cX6_init 73 = .ok (.putfield 34, 3) := by decide +kernel
theorem dX6_init_76 : decode cX6_init 76 = .ok (.aload_n 0, 1) := by decide +kernel
theorem dX6_init_77 : decode cX6_init 77 = .ok (.bipush 6, 2) := by decide +kernel
theorem dX6_init_79 : decode cX6_init 79 = .ok (.newarray .long, 2) := by decide +kernel
theorem dX6_init_81 : decode cX6_init 81 = .ok (.putfield 38, 3) := by decide +kernel
theorem dX6_init_84 : decode cX6_init 84 = .ok (.return_, 1) := by decide +kernel
theorem dX6_in_0 : decode cX6_in 0 = .ok (.lload_n 0, 1) := by decide +kernel
theorem dX6_in_1 : decode cX6_in 1 = .ok (.lload_n 2, 1) := by decide +kernel
theorem dX6_in_2 : decode cX6_in 2 = .ok (.lcmp, 1) := by decide +kernel
theorem dX6_in_3 : decode cX6_in 3 = .ok (.ifCond .lt 14, 3) := by decide +kernel
theorem dX6_in_6 : decode cX6_in 6 = .ok (.lload_n 0, 1) := by decide +kernel
theorem dX6_in_7 : decode cX6_in 7 = .ok (.lload 4, 2) := by decide +kernel
theorem dX6_in_9 : decode cX6_in 9 = .ok (.lcmp, 1) := by decide +kernel
theorem dX6_in_10 : decode cX6_in 10 = .ok (.ifCond .gt 7, 3) := by decide +kernel
theorem dX6_in_13 : decode cX6_in 13 = .ok (.iconst 1, 1) := by decide +kernel
theorem dX6_in_14 : decode cX6_in 14 = .ok (.goto 4, 3) := by decide +kernel
theorem dX6_in_17 : decode cX6_in 17 = .ok (.iconst 0, 1) := by decide +kernel
theorem dX6_in_18 : decode cX6_in 18 = .ok (.ireturn, 1) := by decide +kernel
theorem dX6_copies_0 : decode cX6_copies 0 = .ok (.iconst 0, 1) := by decide +kernel
theorem dX6_copies_1 : decode cX6_copies 1 = .ok (.istore_n 3, 1) := by decide +kernel
theorem dX6_copies_2 : decode cX6_copies 2 = .ok (.iload_n 3, 1) := by decide +kernel
theorem dX6_copies_3 : decode cX6_copies 3 = .ok (.sipush 168, 3) := by decide +kernel
theorem dX6_copies_6 : decode cX6_copies 6 = .ok (.if_icmp .ge 33, 3) := by decide +kernel
theorem dX6_copies_9 : decode cX6_copies 9 = .ok (.aload_n 0, 1) := by decide +kernel
theorem dX6_copies_10 : decode cX6_copies 10 = .ok (.getfield 16, 3) := by decide +kernel
theorem dX6_copies_13 : decode cX6_copies 13 = .ok (.sipush 168, 3) := by decide +kernel
theorem dX6_copies_16 : decode cX6_copies 16 = .ok (.iload_n 2, 1) := by decide +kernel
theorem dX6_copies_17 : decode cX6_copies 17 = .ok (.imul, 1) := by decide +kernel
theorem dX6_copies_18 : decode cX6_copies 18 = .ok (.iload_n 3, 1) := by decide +kernel
theorem dX6_copies_19 : decode cX6_copies 19 = .ok (.iadd, 1) := by decide +kernel
theorem dX6_copies_20 : decode cX6_copies 20 = .ok (.aload_n 0, 1) := by decide +kernel
theorem dX6_copies_21 : decode cX6_copies 21 = .ok (.getfield 16, 3) := by decide +kernel
theorem dX6_copies_24 : decode cX6_copies 24 = .ok (.sipush 168, 3) := by decide +kernel
theorem dX6_copies_27 : decode cX6_copies 27 = .ok (.iload_n 1, 1) := by decide +kernel
theorem dX6_copies_28 : decode cX6_copies 28 = .ok (.imul, 1) := by decide +kernel
theorem dX6_copies_29 : decode cX6_copies 29 = .ok (.iload_n 3, 1) := by decide +kernel
theorem dX6_copies_30 : decode cX6_copies 30 = .ok (.iadd, 1) := by decide +kernel
theorem dX6_copies_31 : decode cX6_copies 31 = .ok (.iaload, 1) := by decide +kernel
theorem dX6_copies_32 : decode cX6_copies 32 = .ok (.iastore, 1) := by decide +kernel
theorem dX6_copies_33 : decode cX6_copies 33 = .ok (.iinc 3 1, 3) := by decide +kernel
theorem dX6_copies_36 : decode cX6_copies 36 = .ok (.goto (-34), 3) := by decide +kernel
theorem dX6_copies_39 : decode cX6_copies 39 = .ok (.return_, 1) := by decide +kernel
theorem dX6_isBegun_0 : decode cX6_isBegun 0 = .ok (.aload_n 0, 1) := by decide +kernel
theorem dX6_isBegun_1 : decode cX6_isBegun 1 = .ok (.getfield 16, 3) := by decide +kernel
theorem dX6_isBegun_4 : decode cX6_isBegun 4 = .ok (.iconst 0, 1) := by decide +kernel
theorem dX6_isBegun_5 : decode cX6_isBegun 5 = .ok (.iaload, 1) := by decide +kernel
theorem dX6_isBegun_6 : decode cX6_isBegun 6 = .ok (.ifCond .le 7, 3) := by decide +kernel
theorem dX6_isBegun_9 : decode cX6_isBegun 9 = .ok (.iconst 1, 1) := by decide +kernel
theorem dX6_isBegun_10 : decode cX6_isBegun 10 = .ok (.goto 4, 3) := by decide +kernel
theorem dX6_isBegun_13 : decode cX6_isBegun 13 = .ok (.iconst 0, 1) := by decide +kernel
theorem dX6_isBegun_14 : decode cX6_isBegun 14 = .ok (.ireturn, 1) := by decide +kernel
theorem dX6_isContender_0 : decode cX6_isContender 0 = .ok (.iload_n 1, 1) := by decide +kernel
theorem dX6_isContender_1 : decode cX6_isContender 1 = .ok (.i2l, 1) := by decide +kernel
theorem dX6_isContender_2 : decode cX6_isContender 2 = .ok (.lconst 0, 1) := by decide +kernel
theorem dX6_isContender_3 : decode cX6_isContender 3 = .ok (.aload_n 0, 1) := by decide +kernel
theorem dX6_isContender_4 : decode cX6_isContender 4 = .ok (.getfield 41, 3) := by decide +kernel
theorem dX6_isContender_7 : decode cX6_isContender 7 = .ok (.iconst 1, 1) := by decide +kernel
theorem dX6_isContender_8 : decode cX6_isContender 8 = .ok (.isub, 1) := by decide +kernel
theorem dX6_isContender_9 : decode cX6_isContender 9 = .ok (.i2l, 1) := by decide +kernel
theorem dX6_isContender_10 : decode cX6_isContender 10 = .ok (.invokestatic 45, 3) := by decide +kernel
theorem dX6_isContender_13 : decode cX6_isContender 13 = .ok (.ireturn, 1) := by decide +kernel
theorem dX6_isLink_0 : decode cX6_isLink 0 = .ok (.iload_n 1, 1) := by decide +kernel
theorem dX6_isLink_1 : decode cX6_isLink 1 = .ok (.i2l, 1) := by decide +kernel
theorem dX6_isLink_2 : decode cX6_isLink 2 = .ok (.lconst 0, 1) := by decide +kernel
theorem dX6_isLink_3 : decode cX6_isLink 3 = .ok (.iconst 2, 1) := by decide +kernel
theorem dX6_isLink_4 : decode cX6_isLink 4 = .ok (.aload_n 0, 1) := by decide +kernel
theorem dX6_isLink_5 : decode cX6_isLink 5 = .ok (.getfield 41, 3) := by decide +kernel
theorem dX6_isLink_8 : decode cX6_isLink 8 = .ok (.imul, 1) := by decide +kernel
theorem dX6_isLink_9 : decode cX6_isLink 9 = .ok (.iconst 1, 1) := by decide +kernel
theorem dX6_isLink_10 : decode cX6_isLink 10 = .ok (.isub, 1) := by decide +kernel
theorem dX6_isLink_11 : decode cX6_isLink 11 = .ok (.i2l, 1) := by decide +kernel
theorem dX6_isLink_12 : decode cX6_isLink 12 = .ok (.invokestatic 45, 3) := by decide +kernel
theorem dX6_isLink_15 : decode cX6_isLink 15 = .ok (.ireturn, 1) := by decide +kernel
theorem dX6_ofContender_0 : decode cX6_ofContender 0 = .ok (.sipush 168, 3) := by decide +kernel
theorem dX6_ofContender_3 : decode cX6_ofContender 3 = .ok (.iload_n 0, 1) := by decide +kernel
theorem dX6_ofContender_4 : decode cX6_ofContender 4 = .ok (.imul, 1) := by decide +kernel
theorem dX6_ofContender_5 : decode cX6_ofContender 5 = .ok (.bipush 12, 2) := by decide +kernel
theorem dX6_ofContender_7 : decode cX6_ofContender 7 = .ok (.iadd, 1) := by decide +kernel
theorem dX6_ofContender_8 : decode cX6_ofContender 8 = .ok (.bipush 10, 2) := by decide +kernel
theorem dX6_ofContender_10 : decode cX6_ofContender 10 = .ok (.iload_n 1, 1) := by decide +kernel
theorem dX6_ofContender_11 : decode cX6_ofContender 11 = .ok (.imul, 1) := by decide +kernel
theorem dX6_ofContender_12 : decode cX6_ofContender 12 = .ok (.iadd, 1) := by decide +kernel
theorem dX6_ofContender_13 : decode cX6_ofContender 13 = .ok (.iload_n 2, 1) := by decide +kernel
theorem dX6_ofContender_14 : decode cX6_ofContender 14 = .ok (.iadd, 1) := by decide +kernel
theorem dX6_ofContender_15 : decode cX6_ofContender 15 = .ok (.ireturn, 1) := by decide +kernel
theorem dX6_ofLetter_0 : decode cX6_ofLetter 0 = .ok (.sipush 168, 3) := by decide +kernel
theorem dX6_ofLetter_3 : decode cX6_ofLetter 3 = .ok (.iload_n 0, 1) := by decide +kernel
theorem dX6_ofLetter_4 : decode cX6_ofLetter 4 = .ok (.imul, 1) := by decide +kernel
theorem dX6_ofLetter_5 : decode cX6_ofLetter 5 = .ok (.bipush 72, 2) := by decide +kernel
theorem dX6_ofLetter_7 : decode cX6_ofLetter 7 = .ok (.iadd, 1) := by decide +kernel
theorem dX6_ofLetter_8 : decode cX6_ofLetter 8 = .ok (.bipush 6, 2) := by decide +kernel
theorem dX6_ofLetter_10 : decode cX6_ofLetter 10 = .ok (.iload_n 1, 1) := by decide +kernel
theorem dX6_ofLetter_11 : decode cX6_ofLetter 11 = .ok (.imul, 1) := by decide +kernel
theorem dX6_ofLetter_12 : decode cX6_ofLetter 12 = .ok (.iadd, 1) := by decide +kernel
theorem dX6_ofLetter_13 : decode cX6_ofLetter 13 = .ok (.iload_n 2, 1) := by decide +kernel
theorem dX6_ofLetter_14 : decode cX6_ofLetter 14 = .ok (.iadd, 1) := by decide +kernel
theorem dX6_ofLetter_15 : decode cX6_ofLetter 15 = .ok (.ireturn, 1) := by decide +kernel
theorem dX6_has_0 : decode cX6_has 0 = .ok (.aload_n 0, 1) := by decide +kernel
theorem dX6_has_1 : decode cX6_has 1 = .ok (.getfield 16, 3) := by decide +kernel
theorem dX6_has_4 : decode cX6_has 4 = .ok (.iload_n 1, 1) := by decide +kernel
theorem dX6_has_5 : decode cX6_has 5 = .ok (.iload_n 2, 1) := by decide +kernel
theorem dX6_has_6 : decode cX6_has 6 = .ok (.iload_n 3, 1) := by decide +kernel
theorem dX6_has_7 : decode cX6_has 7 = .ok (.invokestatic 49, 3) := by decide +kernel
theorem dX6_has_10 : decode cX6_has 10 = .ok (.iaload, 1) := by decide +kernel
theorem dX6_has_11 : decode cX6_has 11 = .ok (.ireturn, 1) := by decide +kernel
theorem dX6_set_0 : decode cX6_set 0 = .ok (.aload_n 0, 1) := by decide +kernel
theorem dX6_set_1 : decode cX6_set 1 = .ok (.getfield 16, 3) := by decide +kernel
theorem dX6_set_4 : decode cX6_set 4 = .ok (.iload_n 1, 1) := by decide +kernel
theorem dX6_set_5 : decode cX6_set 5 = .ok (.iload_n 2, 1) := by decide +kernel
theorem dX6_set_6 : decode cX6_set 6 = .ok (.iload_n 3, 1) := by decide +kernel
theorem dX6_set_7 : decode cX6_set 7 = .ok (.invokestatic 49, 3) := by decide +kernel
theorem dX6_set_10 : decode cX6_set 10 = .ok (.iload 4, 2) := by decide +kernel
theorem dX6_set_12 : decode cX6_set 12 = .ok (.iastore, 1) := by decide +kernel
theorem dX6_set_13 : decode cX6_set 13 = .ok (.return_, 1) := by decide +kernel
theorem dX6_sends_0 : decode cX6_sends 0 = .ok (.aload_n 0, 1) := by decide +kernel
theorem dX6_sends_1 : decode cX6_sends 1 = .ok (.getfield 16, 3) := by decide +kernel
theorem dX6_sends_4 : decode cX6_sends 4 = .ok (.sipush 168, 3) := by decide +kernel
theorem dX6_sends_7 : decode cX6_sends 7 = .ok (.iload_n 1, 1) := by decide +kernel
theorem dX6_sends_8 : decode cX6_sends 8 = .ok (.imul, 1) := by decide +kernel
theorem dX6_sends_9 : decode cX6_sends 9 = .ok (.iconst 2, 1) := by decide +kernel
theorem dX6_sends_10 : decode cX6_sends 10 = .ok (.iadd, 1) := by decide +kernel
theorem dX6_sends_11 : decode cX6_sends 11 = .ok (.iaload, 1) := by decide +kernel
theorem dX6_sends_12 : decode cX6_sends 12 = .ok (.istore 8, 2) := by decide +kernel
theorem dX6_sends_14 : decode cX6_sends 14 = .ok (.aload_n 0, 1) := by decide +kernel
theorem dX6_sends_15 : decode cX6_sends 15 = .ok (.getfield 16, 3) := by decide +kernel
theorem dX6_sends_18 : decode cX6_sends 18 = .ok (.iload_n 1, 1) := by decide +kernel
theorem dX6_sends_19 : decode cX6_sends 19 = .ok (.iload 8, 2) := by decide +kernel
theorem dX6_sends_21 : decode cX6_sends 21 = .ok (.iconst 0, 1) := by decide +kernel
theorem dX6_sends_22 : decode cX6_sends 22 = .ok (.invokestatic 53, 3) := by decide +kernel
theorem dX6_sends_25 : decode cX6_sends 25 = .ok (.iload_n 2, 1) := by decide +kernel
theorem dX6_sends_26 : decode cX6_sends 26 = .ok (.iastore, 1) := by decide +kernel
theorem dX6_sends_27 : decode cX6_sends 27 = .ok (.aload_n 0, 1) := by decide +kernel
theorem dX6_sends_28 : decode cX6_sends 28 = .ok (.getfield 16, 3) := by decide +kernel
theorem dX6_sends_31 : decode cX6_sends 31 = .ok (.iload_n 1, 1) := by decide +kernel
theorem dX6_sends_32 : decode cX6_sends 32 = .ok (.iload 8, 2) := by decide +kernel
theorem dX6_sends_34 : decode cX6_sends 34 = .ok (.iconst 1, 1) := by decide +kernel
theorem dX6_sends_35 : decode cX6_sends 35 = .ok (.invokestatic 53, 3) := by decide +kernel
theorem dX6_sends_38 : decode cX6_sends 38 = .ok (.iload_n 3, 1) := by decide +kernel
theorem dX6_sends_39 : decode cX6_sends 39 = .ok (.iastore, 1) := by decide +kernel
theorem dX6_sends_40 : decode cX6_sends 40 = .ok (.aload_n 0, 1) := by decide +kernel
theorem dX6_sends_41 : decode cX6_sends 41 = .ok (.getfield 16, 3) := by decide +kernel
theorem dX6_sends_44 : decode cX6_sends 44 = .ok (.iload_n 1, 1) := by decide +kernel
theorem dX6_sends_45 : decode cX6_sends 45 = .ok (.iload 8, 2) := by decide +kernel
theorem dX6_sends_47 : decode cX6_sends 47 = .ok (.iconst 2, 1) := by decide +kernel
theorem dX6_sends_48 : decode cX6_sends 48 = .ok (.invokestatic 53, 3) := by decide +kernel
theorem dX6_sends_51 : decode cX6_sends 51 = .ok (.iload 4, 2) := by decide +kernel
theorem dX6_sends_53 : decode cX6_sends 53 = .ok (.iastore, 1) := by decide +kernel
theorem dX6_sends_54 : decode cX6_sends 54 = .ok (.aload_n 0, 1) := by decide +kernel
theorem dX6_sends_55 : decode cX6_sends 55 = .ok (.getfield 16, 3) := by decide +kernel
theorem dX6_sends_58 : decode cX6_sends 58 = .ok (.iload_n 1, 1) := by decide +kernel
theorem dX6_sends_59 : decode cX6_sends 59 = .ok (.iload 8, 2) := by decide +kernel
theorem dX6_sends_61 : decode cX6_sends 61 = .ok (.iconst 3, 1) := by decide +kernel
theorem dX6_sends_62 : decode cX6_sends 62 = .ok (.invokestatic 53, 3) := by decide +kernel
theorem dX6_sends_65 : decode cX6_sends 65 = .ok (.iload 5, 2) := by decide +kernel
theorem dX6_sends_67 : decode cX6_sends 67 = .ok (.iastore, 1) := by decide +kernel
theorem dX6_sends_68 : decode cX6_sends 68 = .ok (.aload_n 0, 1) := by decide +kernel
theorem dX6_sends_69 : decode cX6_sends 69 = .ok (.getfield 16, 3) := by decide +kernel
theorem dX6_sends_72 : decode cX6_sends 72 = .ok (.iload_n 1, 1) := by decide +kernel
theorem dX6_sends_73 : decode cX6_sends 73 = .ok (.iload 8, 2) := by decide +kernel
theorem dX6_sends_75 : decode cX6_sends 75 = .ok (.iconst 4, 1) := by decide +kernel
theorem dX6_sends_76 : decode cX6_sends 76 = .ok (.invokestatic 53, 3) := by decide +kernel
theorem dX6_sends_79 : decode cX6_sends 79 = .ok (.iload 6, 2) := by decide +kernel
theorem dX6_sends_81 : decode cX6_sends 81 = .ok (.iastore, 1) := by decide +kernel
theorem dX6_sends_82 : decode cX6_sends 82 = .ok (.aload_n 0, 1) := by decide +kernel
theorem dX6_sends_83 : decode cX6_sends 83 = .ok (.getfield 16, 3) := by decide +kernel
theorem dX6_sends_86 : decode cX6_sends 86 = .ok (.iload_n 1, 1) := by decide +kernel
theorem dX6_sends_87 : decode cX6_sends 87 = .ok (.iload 8, 2) := by decide +kernel
theorem dX6_sends_89 : decode cX6_sends 89 = .ok (.iconst 5, 1) := by decide +kernel
theorem dX6_sends_90 : decode cX6_sends 90 = .ok (.invokestatic 53, 3) := by decide +kernel
theorem dX6_sends_93 : decode cX6_sends 93 = .ok (.iload 7, 2) := by decide +kernel
theorem dX6_sends_95 : decode cX6_sends 95 = .ok (.iastore, 1) := by decide +kernel
theorem dX6_sends_96 : decode cX6_sends 96 = .ok (.aload_n 0, 1) := by decide +kernel
theorem dX6_sends_97 : decode cX6_sends 97 = .ok (.getfield 16, 3) := by decide +kernel
theorem dX6_sends_100 : decode cX6_sends 100 = .ok (.sipush 168, 3) := by decide +kernel
theorem dX6_sends_103 : decode cX6_sends 103 = .ok (.iload_n 1, 1) := by decide +kernel
theorem dX6_sends_104 : decode cX6_sends 104 = .ok (.imul, 1) := by decide +kernel
theorem dX6_sends_105 : decode cX6_sends 105 = .ok (.iconst 2, 1) := by decide +kernel
theorem dX6_sends_106 : decode cX6_sends 106 = .ok (.iadd, 1) := by decide +kernel
theorem dX6_sends_107 : decode cX6_sends 107 = .ok (.iload 8, 2) := by decide +kernel
theorem dX6_sends_109 : decode cX6_sends 109 = .ok (.iconst 1, 1) := by decide +kernel
theorem dX6_sends_110 : decode cX6_sends 110 = .ok (.iadd, 1) := by decide +kernel
theorem dX6_sends_111 : decode cX6_sends 111 = .ok (.iastore, 1) := by decide +kernel
theorem dX6_sends_112 : decode cX6_sends 112 = .ok (.aload_n 0, 1) := by decide +kernel
theorem dX6_sends_113 : decode cX6_sends 113 = .ok (.getfield 16, 3) := by decide +kernel
theorem dX6_sends_116 : decode cX6_sends 116 = .ok (.sipush 168, 3) := by decide +kernel
theorem dX6_sends_119 : decode cX6_sends 119 = .ok (.iload_n 1, 1) := by decide +kernel
theorem dX6_sends_120 : decode cX6_sends 120 = .ok (.imul, 1) := by decide +kernel
theorem dX6_sends_121 : decode cX6_sends 121 = .ok (.iconst 3, 1) := by decide +kernel
theorem dX6_sends_122 : decode cX6_sends 122 = .ok (.iadd, 1) := by decide +kernel
theorem dX6_sends_123 : decode cX6_sends 123 = .ok (.dup2, 1) := by decide +kernel
theorem dX6_sends_124 : decode cX6_sends 124 = .ok (.iaload, 1) := by decide +kernel
theorem dX6_sends_125 : decode cX6_sends 125 = .ok (.iconst 1, 1) := by decide +kernel
theorem dX6_sends_126 : decode cX6_sends 126 = .ok (.iadd, 1) := by decide +kernel
theorem dX6_sends_127 : decode cX6_sends 127 = .ok (.iastore, 1) := by decide +kernel
theorem dX6_sends_128 : decode cX6_sends 128 = .ok (.aload_n 0, 1) := by decide +kernel
theorem dX6_sends_129 : decode cX6_sends 129 = .ok (.getfield 16, 3) := by decide +kernel
theorem dX6_sends_132 : decode cX6_sends 132 = .ok (.sipush 168, 3) := by decide +kernel
theorem dX6_sends_135 : decode cX6_sends 135 = .ok (.iload_n 1, 1) := by decide +kernel
theorem dX6_sends_136 : decode cX6_sends 136 = .ok (.imul, 1) := by decide +kernel
theorem dX6_sends_137 : decode cX6_sends 137 = .ok (.iconst 3, 1) := by decide +kernel
theorem dX6_sends_138 : decode cX6_sends 138 = .ok (.iadd, 1) := by decide +kernel
theorem dX6_sends_139 : decode cX6_sends 139 = .ok (.iload_n 3, 1) := by decide +kernel
theorem dX6_sends_140 : decode cX6_sends 140 = .ok (.iadd, 1) := by decide +kernel
theorem dX6_sends_141 : decode cX6_sends 141 = .ok (.dup2, 1) := by decide +kernel
theorem dX6_sends_142 : decode cX6_sends 142 = .ok (.iaload, 1) := by decide +kernel
theorem dX6_sends_143 : decode cX6_sends 143 = .ok (.iconst 1, 1) := by decide +kernel
theorem dX6_sends_144 : decode cX6_sends 144 = .ok (.iadd, 1) := by decide +kernel
theorem dX6_sends_145 : decode cX6_sends 145 = .ok (.iastore, 1) := by decide +kernel
theorem dX6_sends_146 : decode cX6_sends 146 = .ok (.return_, 1) := by decide +kernel
theorem dX6_rightOf_0 : decode cX6_rightOf 0 = .ok (.iconst 2, 1) := by decide +kernel
theorem dX6_rightOf_1 : decode cX6_rightOf 1 = .ok (.iload_n 2, 1) := by decide +kernel
theorem dX6_rightOf_2 : decode cX6_rightOf 2 = .ok (.imul, 1) := by decide +kernel
theorem dX6_rightOf_3 : decode cX6_rightOf 3 = .ok (.aload_n 0, 1) := by decide +kernel
theorem dX6_rightOf_4 : decode cX6_rightOf 4 = .ok (.iload_n 1, 1) := by decide +kernel
theorem dX6_rightOf_5 : decode cX6_rightOf 5 = .ok (.iload_n 2, 1) := by decide +kernel
theorem dX6_rightOf_6 : decode cX6_rightOf 6 = .ok (.iconst 0, 1) := by decide +kernel
theorem dX6_rightOf_7 : decode cX6_rightOf 7 = .ok (.invokevirtual 56, 3) := by decide +kernel
theorem dX6_rightOf_10 : decode cX6_rightOf 10 = .ok (.iadd, 1) := by decide +kernel
theorem dX6_rightOf_11 : decode cX6_rightOf 11 = .ok (.ireturn, 1) := by decide +kernel
theorem dX6_letterOn_0 : decode cX6_letterOn 0 = .ok (.iload_n 3, 1) := by decide +kernel
theorem dX6_letterOn_1 : decode cX6_letterOn 1 = .ok (.istore 4, 2) := by decide +kernel
theorem dX6_letterOn_3 : decode cX6_letterOn 3 = .ok (.iconst (-1), 1) := by decide +kernel
theorem dX6_letterOn_4 : decode cX6_letterOn 4 = .ok (.istore 5, 2) := by decide +kernel
theorem dX6_letterOn_6 : decode cX6_letterOn 6 = .ok (.iconst 0, 1) := by decide +kernel
theorem dX6_letterOn_7 : decode cX6_letterOn 7 = .ok (.istore 6, 2) := by decide +kernel
theorem dX6_letterOn_9 : decode cX6_letterOn 9 = .ok (.iload 6, 2) := by decide +kernel
theorem dX6_letterOn_11 : decode cX6_letterOn 11 = .ok (.aload_n 0, 1) := by decide +kernel
theorem dX6_letterOn_12 : decode cX6_letterOn 12 = .ok (.getfield 16, 3) := by decide +kernel
theorem dX6_letterOn_15 : decode cX6_letterOn 15 = .ok (.sipush 168, 3) := by decide +kernel
theorem dX6_letterOn_18 : decode cX6_letterOn 18 = .ok (.iload_n 1, 1) := by decide +kernel
theorem dX6_letterOn_19 : decode cX6_letterOn 19 = .ok (.imul, 1) := by decide +kernel
theorem dX6_letterOn_20 : decode cX6_letterOn 20 = .ok (.iconst 2, 1) := by decide +kernel
theorem dX6_letterOn_21 : decode cX6_letterOn 21 = .ok (.iadd, 1) := by decide +kernel
theorem dX6_letterOn_22 : decode cX6_letterOn 22 = .ok (.iaload, 1) := by decide +kernel
theorem dX6_letterOn_23 : decode cX6_letterOn 23 = .ok (.if_icmp .ge 66, 3) := by decide +kernel
theorem dX6_letterOn_26 : decode cX6_letterOn 26 = .ok (.aload_n 0, 1) := by decide +kernel
theorem dX6_letterOn_27 : decode cX6_letterOn 27 = .ok (.getfield 16, 3) := by decide +kernel
theorem dX6_letterOn_30 : decode cX6_letterOn 30 = .ok (.iload_n 1, 1) := by decide +kernel
theorem dX6_letterOn_31 : decode cX6_letterOn 31 = .ok (.iload 6, 2) := by decide +kernel
theorem dX6_letterOn_33 : decode cX6_letterOn 33 = .ok (.iconst 0, 1) := by decide +kernel
theorem dX6_letterOn_34 : decode cX6_letterOn 34 = .ok (.invokestatic 53, 3) := by decide +kernel
theorem dX6_letterOn_37 : decode cX6_letterOn 37 = .ok (.iaload, 1) := by decide +kernel
theorem dX6_letterOn_38 : decode cX6_letterOn 38 = .ok (.iload_n 2, 1) := by decide +kernel
theorem dX6_letterOn_39 : decode cX6_letterOn 39 = .ok (.if_icmp .ne 7, 3) := by decide +kernel
theorem dX6_letterOn_42 : decode cX6_letterOn 42 = .ok (.iconst 1, 1) := by decide +kernel
theorem dX6_letterOn_43 : decode cX6_letterOn 43 = .ok (.goto 4, 3) := by decide +kernel
theorem dX6_letterOn_46 : decode cX6_letterOn 46 = .ok (.iconst 0, 1) := by decide +kernel
theorem dX6_letterOn_47 : decode cX6_letterOn 47 = .ok (.istore 7, 2) := by decide +kernel
theorem dX6_letterOn_49 : decode cX6_letterOn 49 = .ok (.iload 7, 2) := by decide +kernel
theorem dX6_letterOn_51 : decode cX6_letterOn 51 = .ok (.ifCond .eq 13, 3) := by decide +kernel
theorem dX6_letterOn_54 : decode cX6_letterOn 54 = .ok (.iload 4, 2) := by decide +kernel
theorem dX6_letterOn_56 : decode cX6_letterOn 56 = .ok (.ifCond .ne 8, 3) := by decide +kernel
theorem dX6_letterOn_59 : decode cX6_letterOn 59 = .ok (.iload 6, 2) := by decide +kernel
theorem dX6_letterOn_61 : decode cX6_letterOn 61 = .ok (.goto 5, 3) := by decide +kernel
theorem dX6_letterOn_64 : decode cX6_letterOn 64 = .ok (.iload 5, 2) := by decide +kernel
theorem dX6_letterOn_66 : decode cX6_letterOn 66 = .ok (.istore 5, 2) := by decide +kernel
theorem dX6_letterOn_68 : decode cX6_letterOn 68 = .ok (.iload 4, 2) := by decide +kernel
theorem dX6_letterOn_70 : decode cX6_letterOn 70 = .ok (.iload 7, 2) := by decide +kernel
theorem dX6_letterOn_72 : decode cX6_letterOn 72 = .ok (.ifCond .eq 7, 3) := by decide +kernel
theorem dX6_letterOn_75 : decode cX6_letterOn 75 = .ok (.iconst 1, 1) := by decide +kernel
theorem dX6_letterOn_76 : decode cX6_letterOn 76 = .ok (.goto 4, 3) := by decide +kernel
theorem dX6_letterOn_79 : decode cX6_letterOn 79 = .ok (.iconst 0, 1) := by decide +kernel
theorem dX6_letterOn_80 : decode cX6_letterOn 80 = .ok (.isub, 1) := by decide +kernel
theorem dX6_letterOn_81 : decode cX6_letterOn 81 = .ok (.istore 4, 2) := by decide +kernel
theorem dX6_letterOn_83 : decode cX6_letterOn 83 = .ok (.iinc 6 1, 3) := by decide +kernel
theorem dX6_letterOn_86 : decode cX6_letterOn 86 = .ok (.goto (-77), 3) := by decide +kernel
theorem dX6_letterOn_89 : decode cX6_letterOn 89 = .ok (.iload 5, 2) := by decide +kernel
theorem dX6_letterOn_91 : decode cX6_letterOn 91 = .ok (.ireturn, 1) := by decide +kernel
theorem dX6_manyOn_0 : decode cX6_manyOn 0 = .ok (.iconst 0, 1) := by decide +kernel
theorem dX6_manyOn_1 : decode cX6_manyOn 1 = .ok (.istore_n 3, 1) := by decide +kernel
theorem dX6_manyOn_2 : decode cX6_manyOn 2 = .ok (.iconst 0, 1) := by decide +kernel
theorem dX6_manyOn_3 : decode cX6_manyOn 3 = .ok (.istore 4, 2) := by decide +kernel
theorem dX6_manyOn_5 : decode cX6_manyOn 5 = .ok (.iload 4, 2) := by decide +kernel
theorem dX6_manyOn_7 : decode cX6_manyOn 7 = .ok (.aload_n 0, 1) := by decide +kernel
theorem dX6_manyOn_8 : decode cX6_manyOn 8 = .ok (.getfield 16, 3) := by decide +kernel
theorem dX6_manyOn_11 : decode cX6_manyOn 11 = .ok (.sipush 168, 3) := by decide +kernel
theorem dX6_manyOn_14 : decode cX6_manyOn 14 = .ok (.iload_n 1, 1) := by decide +kernel
theorem dX6_manyOn_15 : decode cX6_manyOn 15 = .ok (.imul, 1) := by decide +kernel
theorem dX6_manyOn_16 : decode cX6_manyOn 16 = .ok (.iconst 2, 1) := by decide +kernel
theorem dX6_manyOn_17 : decode cX6_manyOn 17 = .ok (.iadd, 1) := by decide +kernel
theorem dX6_manyOn_18 : decode cX6_manyOn 18 = .ok (.iaload, 1) := by decide +kernel
theorem dX6_manyOn_19 : decode cX6_manyOn 19 = .ok (.if_icmp .ge 33, 3) := by decide +kernel
theorem dX6_manyOn_22 : decode cX6_manyOn 22 = .ok (.iload_n 3, 1) := by decide +kernel
theorem dX6_manyOn_23 : decode cX6_manyOn 23 = .ok (.aload_n 0, 1) := by decide +kernel
theorem dX6_manyOn_24 : decode cX6_manyOn 24 = .ok (.getfield 16, 3) := by decide +kernel
theorem dX6_manyOn_27 : decode cX6_manyOn 27 = .ok (.iload_n 1, 1) := by decide +kernel
theorem dX6_manyOn_28 : decode cX6_manyOn 28 = .ok (.iload 4, 2) := by decide +kernel
theorem dX6_manyOn_30 : decode cX6_manyOn 30 = .ok (.iconst 0, 1) := by decide +kernel
theorem dX6_manyOn_31 : decode cX6_manyOn 31 = .ok (.invokestatic 53, 3) := by decide +kernel
theorem dX6_manyOn_34 : decode cX6_manyOn 34 = .ok (.iaload, 1) := by decide +kernel
theorem dX6_manyOn_35 : decode cX6_manyOn 35 = .ok (.iload_n 2, 1) := by decide +kernel
theorem dX6_manyOn_36 : decode cX6_manyOn 36 = .ok (.if_icmp .ne 7, 3) := by decide +kernel
theorem dX6_manyOn_39 : decode cX6_manyOn 39 = .ok (.iconst 1, 1) := by decide +kernel
theorem dX6_manyOn_40 : decode cX6_manyOn 40 = .ok (.goto 4, 3) := by decide +kernel
theorem dX6_manyOn_43 : decode cX6_manyOn 43 = .ok (.iconst 0, 1) := by decide +kernel
theorem dX6_manyOn_44 : decode cX6_manyOn 44 = .ok (.iadd, 1) := by decide +kernel
theorem dX6_manyOn_45 : decode cX6_manyOn 45 = .ok (.istore_n 3, 1) := by decide +kernel
theorem dX6_manyOn_46 : decode cX6_manyOn 46 = .ok (.iinc 4 1, 3) := by decide +kernel
theorem dX6_manyOn_49 : decode cX6_manyOn 49 = .ok (.goto (-44), 3) := by decide +kernel
theorem dX6_manyOn_52 : decode cX6_manyOn 52 = .ok (.iload_n 3, 1) := by decide +kernel
theorem dX6_manyOn_53 : decode cX6_manyOn 53 = .ok (.ireturn, 1) := by decide +kernel
theorem dX6_probes_0 : decode cX6_probes 0 = .ok (.aload_n 0, 1) := by decide +kernel
theorem dX6_probes_1 : decode cX6_probes 1 = .ok (.iload_n 1, 1) := by decide +kernel
theorem dX6_probes_2 : decode cX6_probes 2 = .ok (.iload_n 2, 1) := by decide +kernel
theorem dX6_probes_3 : decode cX6_probes 3 = .ok (.iconst 3, 1) := by decide +kernel
theorem dX6_probes_4 : decode cX6_probes 4 = .ok (.invokevirtual 56, 3) := by decide +kernel
theorem dX6_probes_7 : decode cX6_probes 7 = .ok (.istore_n 3, 1) := by decide +kernel
theorem dX6_probes_8 : decode cX6_probes 8 = .ok (.aload_n 0, 1) := by decide +kernel
theorem dX6_probes_9 : decode cX6_probes 9 = .ok (.iload_n 1, 1) := by decide +kernel
theorem dX6_probes_10 : decode cX6_probes 10 = .ok (.iload_n 2, 1) := by decide +kernel
theorem dX6_probes_11 : decode cX6_probes 11 = .ok (.iconst 5, 1) := by decide +kernel
theorem dX6_probes_12 : decode cX6_probes 12 = .ok (.iconst 0, 1) := by decide +kernel
theorem dX6_probes_13 : decode cX6_probes 13 = .ok (.invokevirtual 59, 3) := by decide +kernel
theorem dX6_probes_16 : decode cX6_probes 16 = .ok (.aload_n 0, 1) := by decide +kernel
theorem dX6_probes_17 : decode cX6_probes 17 = .ok (.iload_n 1, 1) := by decide +kernel
theorem dX6_probes_18 : decode cX6_probes 18 = .ok (.iconst 2, 1) := by decide +kernel
theorem dX6_probes_19 : decode cX6_probes 19 = .ok (.iload_n 2, 1) := by decide +kernel
theorem dX6_probes_20 : decode cX6_probes 20 = .ok (.imul, 1) := by decide +kernel
theorem dX6_probes_21 : decode cX6_probes 21 = .ok (.iconst 2, 1) := by decide +kernel
theorem dX6_probes_22 : decode cX6_probes 22 = .ok (.aload_n 0, 1) := by decide +kernel
theorem dX6_probes_23 : decode cX6_probes 23 = .ok (.getfield 7, 3) := by decide +kernel
theorem dX6_probes_26 : decode cX6_probes 26 = .ok (.iload_n 2, 1) := by decide +kernel
theorem dX6_probes_27 : decode cX6_probes 27 = .ok (.iaload, 1) := by decide +kernel
theorem dX6_probes_28 : decode cX6_probes 28 = .ok (.iload_n 3, 1) := by decide +kernel
theorem dX6_probes_29 : decode cX6_probes 29 = .ok (.iconst 1, 1) := by decide +kernel
theorem dX6_probes_30 : decode cX6_probes 30 = .ok (.iload_n 3, 1) := by decide +kernel
theorem dX6_probes_31 : decode cX6_probes 31 = .ok (.ishl, 1) := by decide +kernel
theorem dX6_probes_32 : decode cX6_probes 32 = .ok (.iconst (-1), 1) := by decide +kernel
theorem dX6_probes_33 : decode cX6_probes 33 = .ok (.invokevirtual 63, 3) := by decide +kernel
theorem dX6_probes_36 : decode cX6_probes 36 = .ok (.aload_n 0, 1) := by decide +kernel
theorem dX6_probes_37 : decode cX6_probes 37 = .ok (.iload_n 1, 1) := by decide +kernel
theorem dX6_probes_38 : decode cX6_probes 38 = .ok (.iconst 2, 1) := by decide +kernel
theorem dX6_probes_39 : decode cX6_probes 39 = .ok (.iload_n 2, 1) := by decide +kernel
theorem dX6_probes_40 : decode cX6_probes 40 = .ok (.imul, 1) := by decide +kernel
theorem dX6_probes_41 : decode cX6_probes 41 = .ok (.iconst 1, 1) := by decide +kernel
theorem dX6_probes_42 : decode cX6_probes 42 = .ok (.iadd, 1) := by decide +kernel
theorem dX6_probes_43 : decode cX6_probes 43 = .ok (.iconst 2, 1) := by decide +kernel
theorem dX6_probes_44 : decode cX6_probes 44 = .ok (.aload_n 0, 1) := by decide +kernel
theorem dX6_probes_45 : decode cX6_probes 45 = .ok (.getfield 7, 3) := by decide +kernel
theorem dX6_probes_48 : decode cX6_probes 48 = .ok (.iload_n 2, 1) := by decide +kernel
theorem dX6_probes_49 : decode cX6_probes 49 = .ok (.iaload, 1) := by decide +kernel
theorem dX6_probes_50 : decode cX6_probes 50 = .ok (.iload_n 3, 1) := by decide +kernel
theorem dX6_probes_51 : decode cX6_probes 51 = .ok (.iconst 1, 1) := by decide +kernel
theorem dX6_probes_52 : decode cX6_probes 52 = .ok (.iload_n 3, 1) := by decide +kernel
theorem dX6_probes_53 : decode cX6_probes 53 = .ok (.ishl, 1) := by decide +kernel
theorem dX6_probes_54 : decode cX6_probes 54 = .ok (.iconst (-1), 1) := by decide +kernel
theorem dX6_probes_55 : decode cX6_probes 55 = .ok (.invokevirtual 63, 3) := by decide +kernel
theorem dX6_probes_58 : decode cX6_probes 58 = .ok (.return_, 1) := by decide +kernel
theorem dX6_draws_0 : decode cX6_draws 0 = .ok (.aload_n 0, 1) := by decide +kernel
theorem dX6_draws_1 : decode cX6_draws 1 = .ok (.iload_n 1, 1) := by decide +kernel
theorem dX6_draws_2 : decode cX6_draws 2 = .ok (.iload_n 2, 1) := by decide +kernel
theorem dX6_draws_3 : decode cX6_draws 3 = .ok (.bipush 8, 2) := by decide +kernel
theorem dX6_draws_5 : decode cX6_draws 5 = .ok (.invokevirtual 56, 3) := by decide +kernel
theorem dX6_draws_8 : decode cX6_draws 8 = .ok (.i2l, 1) := by decide +kernel
theorem dX6_draws_9 : decode cX6_draws 9 = .ok (.ldc2_w 67, 3) := by decide +kernel
theorem dX6_draws_12 : decode cX6_draws 12 = .ok (.lmul, 1) := by decide +kernel
theorem dX6_draws_13 : decode cX6_draws 13 = .ok (.ldc2_w 69, 3) := by decide +kernel
theorem dX6_draws_16 : decode cX6_draws 16 = .ok (.lrem, 1) := by decide +kernel
theorem dX6_draws_17 : decode cX6_draws 17 = .ok (.lstore_n 3, 1) := by decide +kernel
theorem dX6_draws_18 : decode cX6_draws 18 = .ok (.aload_n 0, 1) := by decide +kernel
theorem dX6_draws_19 : decode cX6_draws 19 = .ok (.iload_n 1, 1) := by decide +kernel
theorem dX6_draws_20 : decode cX6_draws 20 = .ok (.iload_n 2, 1) := by decide +kernel
theorem dX6_draws_21 : decode cX6_draws 21 = .ok (.bipush 8, 2) := by decide +kernel
theorem dX6_draws_23 : decode cX6_draws 23 = .ok (.lload_n 3, 1) := by decide +kernel
theorem dX6_draws_24 : decode cX6_draws 24 = .ok (.l2i, 1) := by decide +kernel
theorem dX6_draws_25 : decode cX6_draws 25 = .ok (.invokevirtual 59, 3) := by decide +kernel
theorem dX6_draws_28 : decode cX6_draws 28 = .ok (.aload_n 0, 1) := by decide +kernel
theorem dX6_draws_29 : decode cX6_draws 29 = .ok (.iload_n 1, 1) := by decide +kernel
theorem dX6_draws_30 : decode cX6_draws 30 = .ok (.iload_n 2, 1) := by decide +kernel
theorem dX6_draws_31 : decode cX6_draws 31 = .ok (.iconst 2, 1) := by decide +kernel
theorem dX6_draws_32 : decode cX6_draws 32 = .ok (.iconst 1, 1) := by decide +kernel
theorem dX6_draws_33 : decode cX6_draws 33 = .ok (.lload_n 3, 1) := by decide +kernel
theorem dX6_draws_34 : decode cX6_draws 34 = .ok (.aload_n 0, 1) := by decide +kernel
theorem dX6_draws_35 : decode cX6_draws 35 = .ok (.getfield 16, 3) := by decide +kernel
theorem dX6_draws_38 : decode cX6_draws 38 = .ok (.sipush 168, 3) := by decide +kernel
theorem dX6_draws_41 : decode cX6_draws 41 = .ok (.iload_n 1, 1) := by decide +kernel
theorem dX6_draws_42 : decode cX6_draws 42 = .ok (.imul, 1) := by decide +kernel
theorem dX6_draws_43 : decode cX6_draws 43 = .ok (.iconst 1, 1) := by decide +kernel
theorem dX6_draws_44 : decode cX6_draws 44 = .ok (.iadd, 1) := by decide +kernel
theorem dX6_draws_45 : decode cX6_draws 45 = .ok (.iaload, 1) := by decide +kernel
theorem dX6_draws_46 : decode cX6_draws 46 = .ok (.i2l, 1) := by decide +kernel
theorem dX6_draws_47 : decode cX6_draws 47 = .ok (.lrem, 1) := by decide +kernel
theorem dX6_draws_48 : decode cX6_draws 48 = .ok (.l2i, 1) := by decide +kernel
theorem dX6_draws_49 : decode cX6_draws 49 = .ok (.iadd, 1) := by decide +kernel
theorem dX6_draws_50 : decode cX6_draws 50 = .ok (.invokevirtual 59, 3) := by decide +kernel
theorem dX6_draws_53 : decode cX6_draws 53 = .ok (.aload_n 0, 1) := by decide +kernel
theorem dX6_draws_54 : decode cX6_draws 54 = .ok (.iload_n 1, 1) := by decide +kernel
theorem dX6_draws_55 : decode cX6_draws 55 = .ok (.aload_n 0, 1) := by decide +kernel
theorem dX6_draws_56 : decode cX6_draws 56 = .ok (.iload_n 1, 1) := by decide +kernel
theorem dX6_draws_57 : decode cX6_draws 57 = .ok (.iload_n 2, 1) := by decide +kernel
theorem dX6_draws_58 : decode cX6_draws 58 = .ok (.invokevirtual 71, 3) := by decide +kernel
theorem dX6_draws_61 : decode cX6_draws 61 = .ok (.bipush 6, 2) := by decide +kernel
theorem dX6_draws_63 : decode cX6_draws 63 = .ok (.aload_n 0, 1) := by decide +kernel
theorem dX6_draws_64 : decode cX6_draws 64 = .ok (.iload_n 1, 1) := by decide +kernel
theorem dX6_draws_65 : decode cX6_draws 65 = .ok (.iload_n 2, 1) := by decide +kernel
theorem dX6_draws_66 : decode cX6_draws 66 = .ok (.iconst 2, 1) := by decide +kernel
theorem dX6_draws_67 : decode cX6_draws 67 = .ok (.invokevirtual 56, 3) := by decide +kernel
theorem dX6_draws_70 : decode cX6_draws 70 = .ok (.aload_n 0, 1) := by decide +kernel
theorem dX6_draws_71 : decode cX6_draws 71 = .ok (.iload_n 1, 1) := by decide +kernel
theorem dX6_draws_72 : decode cX6_draws 72 = .ok (.iload_n 2, 1) := by decide +kernel
theorem dX6_draws_73 : decode cX6_draws 73 = .ok (.iconst 3, 1) := by decide +kernel
theorem dX6_draws_74 : decode cX6_draws 74 = .ok (.invokevirtual 56, 3) := by decide +kernel
theorem dX6_draws_77 : decode cX6_draws 77 = .ok (.iconst 1, 1) := by decide +kernel
theorem dX6_draws_78 : decode cX6_draws 78 = .ok (.iconst 1, 1) := by decide +kernel
theorem dX6_draws_79 : decode cX6_draws 79 = .ok (.invokevirtual 63, 3) := by decide +kernel
theorem dX6_draws_82 : decode cX6_draws 82 = .ok (.return_, 1) := by decide +kernel
theorem dX6_begins_0 : decode cX6_begins 0 = .ok (.aload_n 0, 1) := by decide +kernel
theorem dX6_begins_1 : decode cX6_begins 1 = .ok (.iload_n 1, 1) := by decide +kernel
theorem dX6_begins_2 : decode cX6_begins 2 = .ok (.iload_n 2, 1) := by decide +kernel
theorem dX6_begins_3 : decode cX6_begins 3 = .ok (.iconst 1, 1) := by decide +kernel
theorem dX6_begins_4 : decode cX6_begins 4 = .ok (.iconst 1, 1) := by decide +kernel
theorem dX6_begins_5 : decode cX6_begins 5 = .ok (.invokevirtual 59, 3) := by decide +kernel
theorem dX6_begins_8 : decode cX6_begins 8 = .ok (.aload_n 0, 1) := by decide +kernel
theorem dX6_begins_9 : decode cX6_begins 9 = .ok (.getfield 16, 3) := by decide +kernel
theorem dX6_begins_12 : decode cX6_begins 12 = .ok (.sipush 168, 3) := by decide +kernel
theorem dX6_begins_15 : decode cX6_begins 15 = .ok (.iload_n 1, 1) := by decide +kernel
theorem dX6_begins_16 : decode cX6_begins 16 = .ok (.imul, 1) := by decide +kernel
theorem dX6_begins_17 : decode cX6_begins 17 = .ok (.iconst 0, 1) := by decide +kernel
theorem dX6_begins_18 : decode cX6_begins 18 = .ok (.iadd, 1) := by decide +kernel
theorem dX6_begins_19 : decode cX6_begins 19 = .ok (.iaload, 1) := by decide +kernel
theorem dX6_begins_20 : decode cX6_begins 20 = .ok (.istore_n 3, 1) := by decide +kernel
theorem dX6_begins_21 : decode cX6_begins 21 = .ok (.aload_n 0, 1) := by decide +kernel
theorem dX6_begins_22 : decode cX6_begins 22 = .ok (.iload_n 1, 1) := by decide +kernel
theorem dX6_begins_23 : decode cX6_begins 23 = .ok (.iload_n 2, 1) := by decide +kernel
theorem dX6_begins_24 : decode cX6_begins 24 = .ok (.iconst 3, 1) := by decide +kernel
theorem dX6_begins_25 : decode cX6_begins 25 = .ok (.iload_n 3, 1) := by decide +kernel
theorem dX6_begins_26 : decode cX6_begins 26 = .ok (.iconst 1, 1) := by decide +kernel
theorem dX6_begins_27 : decode cX6_begins 27 = .ok (.if_icmp .ne 7, 3) := by decide +kernel
theorem dX6_begins_30 : decode cX6_begins 30 = .ok (.iconst (-1), 1) := by decide +kernel
theorem dX6_begins_31 : decode cX6_begins 31 = .ok (.goto 13, 3) := by decide +kernel
theorem dX6_begins_34 : decode cX6_begins 34 = .ok (.iload_n 3, 1) := by decide +kernel
theorem dX6_begins_35 : decode cX6_begins 35 = .ok (.iconst 4, 1) := by decide +kernel
theorem dX6_begins_36 : decode cX6_begins 36 = .ok (.if_icmp .ne 7, 3) := by decide +kernel
theorem dX6_begins_39 : decode cX6_begins 39 = .ok (.iconst 1, 1) := by decide +kernel
theorem dX6_begins_40 : decode cX6_begins 40 = .ok (.goto 4, 3) := by decide +kernel
theorem dX6_begins_43 : decode cX6_begins 43 = .ok (.iconst 0, 1) := by decide +kernel
theorem dX6_begins_44 : decode cX6_begins 44 = .ok (.invokevirtual 59, 3) := by decide +kernel
theorem dX6_begins_47 : decode cX6_begins 47 = .ok (.iload_n 3, 1) := by decide +kernel
theorem dX6_begins_48 : decode cX6_begins 48 = .ok (.iconst 1, 1) := by decide +kernel
theorem dX6_begins_49 : decode cX6_begins 49 = .ok (.if_icmp .ne 27, 3) := by decide +kernel
theorem dX6_begins_52 : decode cX6_begins 52 = .ok (.aload_n 0, 1) := by decide +kernel
theorem dX6_begins_53 : decode cX6_begins 53 = .ok (.iload_n 1, 1) := by decide +kernel
theorem dX6_begins_54 : decode cX6_begins 54 = .ok (.aload_n 0, 1) := by decide +kernel
theorem dX6_begins_55 : decode cX6_begins 55 = .ok (.iload_n 1, 1) := by decide +kernel
theorem dX6_begins_56 : decode cX6_begins 56 = .ok (.iload_n 2, 1) := by decide +kernel
theorem dX6_begins_57 : decode cX6_begins 57 = .ok (.invokevirtual 71, 3) := by decide +kernel
theorem dX6_begins_60 : decode cX6_begins 60 = .ok (.iconst 1, 1) := by decide +kernel
theorem dX6_begins_61 : decode cX6_begins 61 = .ok (.aload_n 0, 1) := by decide +kernel
theorem dX6_begins_62 : decode cX6_begins 62 = .ok (.getfield 7, 3) := by decide +kernel
theorem dX6_begins_65 : decode cX6_begins 65 = .ok (.iload_n 2, 1) := by decide +kernel
theorem dX6_begins_66 : decode cX6_begins 66 = .ok (.iaload, 1) := by decide +kernel
theorem dX6_begins_67 : decode cX6_begins 67 = .ok (.iconst (-1), 1) := by decide +kernel
theorem dX6_begins_68 : decode cX6_begins 68 = .ok (.iconst (-1), 1) := by decide +kernel
theorem dX6_begins_69 : decode cX6_begins 69 = .ok (.iconst (-1), 1) := by decide +kernel
theorem dX6_begins_70 : decode cX6_begins 70 = .ok (.invokevirtual 63, 3) := by decide +kernel
theorem dX6_begins_73 : decode cX6_begins 73 = .ok (.goto 65, 3) := by decide +kernel
theorem dX6_begins_76 : decode cX6_begins 76 = .ok (.iload_n 3, 1) := by decide +kernel
theorem dX6_begins_77 : decode cX6_begins 77 = .ok (.iconst 2, 1) := by decide +kernel
theorem dX6_begins_78 : decode cX6_begins 78 = .ok (.if_icmp .ne 12, 3) := by decide +kernel
theorem dX6_begins_81 : decode cX6_begins 81 = .ok (.aload_n 0, 1) := by decide +kernel
theorem dX6_begins_82 : decode cX6_begins 82 = .ok (.iload_n 1, 1) := by decide +kernel
theorem dX6_begins_83 : decode cX6_begins 83 = .ok (.iload_n 2, 1) := by decide +kernel
theorem dX6_begins_84 : decode cX6_begins 84 = .ok (.invokevirtual 75, 3) := by decide +kernel
theorem dX6_begins_87 : decode cX6_begins 87 = .ok (.goto 51, 3) := by decide +kernel
theorem dX6_begins_90 : decode cX6_begins 90 = .ok (.iload_n 3, 1) := by decide +kernel
theorem dX6_begins_91 : decode cX6_begins 91 = .ok (.iconst 3, 1) := by decide +kernel
theorem dX6_begins_92 : decode cX6_begins 92 = .ok (.if_icmp .ne 40, 3) := by decide +kernel
theorem dX6_begins_95 : decode cX6_begins 95 = .ok (.aload_n 0, 1) := by decide +kernel
theorem dX6_begins_96 : decode cX6_begins 96 = .ok (.iload_n 1, 1) := by decide +kernel
theorem dX6_begins_97 : decode cX6_begins 97 = .ok (.iload_n 2, 1) := by decide +kernel
theorem dX6_begins_98 : decode cX6_begins 98 = .ok (.iconst 2, 1) := by decide +kernel
theorem dX6_begins_99 : decode cX6_begins 99 = .ok (.aload_n 0, 1) := by decide +kernel
theorem dX6_begins_100 : decode cX6_begins 100 = .ok (.getfield 7, 3) := by decide +kernel
theorem dX6_begins_103 : decode cX6_begins 103 = .ok (.iload_n 2, 1) := by decide +kernel
theorem dX6_begins_104 : decode cX6_begins 104 = .ok (.iaload, 1) := by decide +kernel
theorem dX6_begins_105 : decode cX6_begins 105 = .ok (.invokevirtual 59, 3) := by decide +kernel
theorem dX6_begins_108 : decode cX6_begins 108 = .ok (.aload_n 0, 1) := by decide +kernel
theorem dX6_begins_109 : decode cX6_begins 109 = .ok (.iload_n 1, 1) := by decide +kernel
theorem dX6_begins_110 : decode cX6_begins 110 = .ok (.aload_n 0, 1) := by decide +kernel
theorem dX6_begins_111 : decode cX6_begins 111 = .ok (.iload_n 1, 1) := by decide +kernel
theorem dX6_begins_112 : decode cX6_begins 112 = .ok (.iload_n 2, 1) := by decide +kernel
theorem dX6_begins_113 : decode cX6_begins 113 = .ok (.invokevirtual 71, 3) := by decide +kernel
theorem dX6_begins_116 : decode cX6_begins 116 = .ok (.iconst 4, 1) := by decide +kernel
theorem dX6_begins_117 : decode cX6_begins 117 = .ok (.aload_n 0, 1) := by decide +kernel
theorem dX6_begins_118 : decode cX6_begins 118 = .ok (.getfield 7, 3) := by decide +kernel
theorem dX6_begins_121 : decode cX6_begins 121 = .ok (.iload_n 2, 1) := by decide +kernel
theorem dX6_begins_122 : decode cX6_begins 122 = .ok (.iaload, 1) := by decide +kernel
theorem dX6_begins_123 : decode cX6_begins 123 = .ok (.iconst (-1), 1) := by decide +kernel
theorem dX6_begins_124 : decode cX6_begins 124 = .ok (.iconst (-1), 1) := by decide +kernel
theorem dX6_begins_125 : decode cX6_begins 125 = .ok (.iconst (-1), 1) := by decide +kernel
theorem dX6_begins_126 : decode cX6_begins 126 = .ok (.invokevirtual 63, 3) := by decide +kernel
theorem dX6_begins_129 : decode cX6_begins 129 = .ok (.goto 9, 3) := by decide +kernel
theorem dX6_begins_132 : decode cX6_begins 132 = .ok (.aload_n 0, 1) := by decide +kernel
theorem dX6_begins_133 : decode cX6_begins 133 = .ok (.iload_n 1, 1) := by decide +kernel
theorem dX6_begins_134 : decode cX6_begins 134 = .ok (.iload_n 2, 1) := by decide +kernel
theorem dX6_begins_135 : decode cX6_begins 135 = .ok (.invokevirtual 79, 3) := by decide +kernel
theorem dX6_begins_138 : decode cX6_begins 138 = .ok (.return_, 1) := by decide +kernel
theorem dX6_heads_0 : decode cX6_heads 0 = .ok (.aload_n 0, 1) := by decide +kernel
theorem dX6_heads_1 : decode cX6_heads 1 = .ok (.iload_n 1, 1) := by decide +kernel
theorem dX6_heads_2 : decode cX6_heads 2 = .ok (.iload_n 2, 1) := by decide +kernel
theorem dX6_heads_3 : decode cX6_heads 3 = .ok (.iconst 1, 1) := by decide +kernel
theorem dX6_heads_4 : decode cX6_heads 4 = .ok (.iconst 3, 1) := by decide +kernel
theorem dX6_heads_5 : decode cX6_heads 5 = .ok (.invokevirtual 59, 3) := by decide +kernel
theorem dX6_heads_8 : decode cX6_heads 8 = .ok (.aload_n 0, 1) := by decide +kernel
theorem dX6_heads_9 : decode cX6_heads 9 = .ok (.iload_n 1, 1) := by decide +kernel
theorem dX6_heads_10 : decode cX6_heads 10 = .ok (.iload_n 2, 1) := by decide +kernel
theorem dX6_heads_11 : decode cX6_heads 11 = .ok (.iconst 4, 1) := by decide +kernel
theorem dX6_heads_12 : decode cX6_heads 12 = .ok (.iload_n 3, 1) := by decide +kernel
theorem dX6_heads_13 : decode cX6_heads 13 = .ok (.invokevirtual 59, 3) := by decide +kernel
theorem dX6_heads_16 : decode cX6_heads 16 = .ok (.aload_n 0, 1) := by decide +kernel
theorem dX6_heads_17 : decode cX6_heads 17 = .ok (.iload_n 1, 1) := by decide +kernel
theorem dX6_heads_18 : decode cX6_heads 18 = .ok (.aload_n 0, 1) := by decide +kernel
theorem dX6_heads_19 : decode cX6_heads 19 = .ok (.iload_n 1, 1) := by decide +kernel
theorem dX6_heads_20 : decode cX6_heads 20 = .ok (.iload_n 2, 1) := by decide +kernel
theorem dX6_heads_21 : decode cX6_heads 21 = .ok (.invokevirtual 71, 3) := by decide +kernel
theorem dX6_heads_24 : decode cX6_heads 24 = .ok (.bipush 7, 2) := by decide +kernel
theorem dX6_heads_26 : decode cX6_heads 26 = .ok (.iload_n 3, 1) := by decide +kernel
theorem dX6_heads_27 : decode cX6_heads 27 = .ok (.iconst (-1), 1) := by decide +kernel
theorem dX6_heads_28 : decode cX6_heads 28 = .ok (.iconst (-1), 1) := by decide +kernel
theorem dX6_heads_29 : decode cX6_heads 29 = .ok (.iconst (-1), 1) := by decide +kernel
theorem dX6_heads_30 : decode cX6_heads 30 = .ok (.invokevirtual 63, 3) := by decide +kernel
theorem dX6_heads_33 : decode cX6_heads 33 = .ok (.return_, 1) := by decide +kernel
theorem dX6_goesOn_0 : decode cX6_goesOn 0 = .ok (.aload_n 0, 1) := by decide +kernel
theorem dX6_goesOn_1 : decode cX6_goesOn 1 = .ok (.iload_n 1, 1) := by decide +kernel
theorem dX6_goesOn_2 : decode cX6_goesOn 2 = .ok (.aload_n 0, 1) := by decide +kernel
theorem dX6_goesOn_3 : decode cX6_goesOn 3 = .ok (.getfield 82, 3) := by decide +kernel
theorem dX6_goesOn_6 : decode cX6_goesOn 6 = .ok (.aload_n 0, 1) := by decide +kernel
theorem dX6_goesOn_7 : decode cX6_goesOn 7 = .ok (.getfield 85, 3) := by decide +kernel
theorem dX6_goesOn_10 : decode cX6_goesOn 10 = .ok (.aload_n 0, 1) := by decide +kernel
theorem dX6_goesOn_11 : decode cX6_goesOn 11 = .ok (.getfield 88, 3) := by decide +kernel
theorem dX6_goesOn_14 : decode cX6_goesOn 14 = .ok (.aload_n 0, 1) := by decide +kernel
theorem dX6_goesOn_15 : decode cX6_goesOn 15 = .ok (.getfield 91, 3) := by decide +kernel
theorem dX6_goesOn_18 : decode cX6_goesOn 18 = .ok (.aload_n 0, 1) := by decide +kernel
theorem dX6_goesOn_19 : decode cX6_goesOn 19 = .ok (.getfield 94, 3) := by decide +kernel
theorem dX6_goesOn_22 : decode cX6_goesOn 22 = .ok (.aload_n 0, 1) := by decide +kernel
theorem dX6_goesOn_23 : decode cX6_goesOn 23 = .ok (.getfield 97, 3) := by decide +kernel
theorem dX6_goesOn_26 : decode cX6_goesOn 26 = .ok (.invokevirtual 63, 3) := by decide +kernel
theorem dX6_goesOn_29 : decode cX6_goesOn 29 = .ok (.return_, 1) := by decide +kernel
theorem dX6_comesByGreatest_0 : decode cX6_comesByGreatest 0 = .ok (.iload_n 3, 1) := by decide +kernel
theorem dX6_comesByGreatest_1 : decode cX6_comesByGreatest 1 = .ok (.ifCond .ne 11, 3) := by decide +kernel
theorem dX6_comesByGreatest_4 : decode cX6_comesByGreatest 4 = .ok (.aload_n 0, 1) := by decide +kernel
theorem dX6_comesByGreatest_5 : decode cX6_comesByGreatest 5 = .ok (.iload_n 1, 1) := by decide +kernel
theorem dX6_comesByGreatest_6 : decode cX6_comesByGreatest 6 = .ok (.invokevirtual 100, 3) := by decide +kernel
theorem dX6_comesByGreatest_9 : decode cX6_comesByGreatest 9 = .ok (.goto 55, 3) := by decide +kernel
theorem dX6_comesByGreatest_12 : decode cX6_comesByGreatest 12 = .ok (.aload_n 0, 1) := by decide +kernel
theorem dX6_comesByGreatest_13 : decode cX6_comesByGreatest 13 = .ok (.getfield 88, 3) := by decide +kernel
theorem dX6_comesByGreatest_16 : decode cX6_comesByGreatest 16 = .ok (.aload_n 0, 1) := by decide +kernel
theorem dX6_comesByGreatest_17 : decode cX6_comesByGreatest 17 = .ok (.getfield 7, 3) := by decide +kernel
theorem dX6_comesByGreatest_20 : decode cX6_comesByGreatest 20 = .ok (.iload_n 2, 1) := by decide +kernel
theorem dX6_comesByGreatest_21 : decode cX6_comesByGreatest 21 = .ok (.iaload, 1) := by decide +kernel
theorem dX6_comesByGreatest_22 : decode cX6_comesByGreatest 22 = .ok (.if_icmp .le 19, 3) := by decide +kernel
theorem dX6_comesByGreatest_25 : decode cX6_comesByGreatest 25 = .ok (.aload_n 0, 1) := by decide +kernel
theorem dX6_comesByGreatest_26 : decode cX6_comesByGreatest 26 = .ok (.iload_n 1, 1) := by decide +kernel
theorem dX6_comesByGreatest_27 : decode cX6_comesByGreatest 27 = .ok (.iload_n 2, 1) := by decide +kernel
theorem dX6_comesByGreatest_28 : decode cX6_comesByGreatest 28 = .ok (.iconst 1, 1) := by decide +kernel
theorem dX6_comesByGreatest_29 : decode cX6_comesByGreatest 29 = .ok (.iconst 2, 1) := by decide +kernel
theorem dX6_comesByGreatest_30 : decode cX6_comesByGreatest 30 = .ok (.invokevirtual 59, 3) := by decide +kernel
theorem dX6_comesByGreatest_33 : decode cX6_comesByGreatest 33 = .ok (.aload_n 0, 1) := by decide +kernel
theorem dX6_comesByGreatest_34 : decode cX6_comesByGreatest 34 = .ok (.iload_n 1, 1) := by decide +kernel
theorem dX6_comesByGreatest_35 : decode cX6_comesByGreatest 35 = .ok (.invokevirtual 100, 3) := by decide +kernel
theorem dX6_comesByGreatest_38 : decode cX6_comesByGreatest 38 = .ok (.goto 26, 3) := by decide +kernel
theorem dX6_comesByGreatest_41 : decode cX6_comesByGreatest 41 = .ok (.aload_n 0, 1) := by decide +kernel
theorem dX6_comesByGreatest_42 : decode cX6_comesByGreatest 42 = .ok (.getfield 88, 3) := by decide +kernel
theorem dX6_comesByGreatest_45 : decode cX6_comesByGreatest 45 = .ok (.aload_n 0, 1) := by decide +kernel
theorem dX6_comesByGreatest_46 : decode cX6_comesByGreatest 46 = .ok (.getfield 7, 3) := by decide +kernel
theorem dX6_comesByGreatest_49 : decode cX6_comesByGreatest 49 = .ok (.iload_n 2, 1) := by decide +kernel
theorem dX6_comesByGreatest_50 : decode cX6_comesByGreatest 50 = .ok (.iaload, 1) := by decide +kernel
theorem dX6_comesByGreatest_51 : decode cX6_comesByGreatest 51 = .ok (.if_icmp .ne 13, 3) := by decide +kernel
theorem dX6_comesByGreatest_54 : decode cX6_comesByGreatest 54 = .ok (.aload_n 0, 1) := by decide +kernel
theorem dX6_comesByGreatest_55 : decode cX6_comesByGreatest 55 = .ok (.iload_n 1, 1) := by decide +kernel
theorem dX6_comesByGreatest_56 : decode cX6_comesByGreatest 56 = .ok (.iload_n 2, 1) := by decide +kernel
theorem dX6_comesByGreatest_57 : decode cX6_comesByGreatest 57 = .ok (.aload_n 0, 1) := by decide +kernel
theorem dX6_comesByGreatest_58 : decode cX6_comesByGreatest 58 = .ok (.getfield 88, 3) := by decide +kernel
theorem dX6_comesByGreatest_61 : decode cX6_comesByGreatest 61 = .ok (.invokevirtual 104, 3) := by decide +kernel
theorem dX6_comesByGreatest_64 : decode cX6_comesByGreatest 64 = .ok (.return_, 1) := by decide +kernel
theorem dX6_comesProbe_0 : decode cX6_comesProbe 0 = .ok (.iload_n 3, 1) := by decide +kernel
theorem dX6_comesProbe_1 : decode cX6_comesProbe 1 = .ok (.ifCond .eq 27, 3) := by decide +kernel
theorem dX6_comesProbe_4 : decode cX6_comesProbe 4 = .ok (.aload_n 0, 1) := by decide +kernel
theorem dX6_comesProbe_5 : decode cX6_comesProbe 5 = .ok (.getfield 88, 3) := by decide +kernel
theorem dX6_comesProbe_8 : decode cX6_comesProbe 8 = .ok (.aload_n 0, 1) := by decide +kernel
theorem dX6_comesProbe_9 : decode cX6_comesProbe 9 = .ok (.getfield 7, 3) := by decide +kernel
theorem dX6_comesProbe_12 : decode cX6_comesProbe 12 = .ok (.iload_n 2, 1) := by decide +kernel
theorem dX6_comesProbe_13 : decode cX6_comesProbe 13 = .ok (.iaload, 1) := by decide +kernel
theorem dX6_comesProbe_14 : decode cX6_comesProbe 14 = .ok (.if_icmp .ne 14, 3) := by decide +kernel
theorem dX6_comesProbe_17 : decode cX6_comesProbe 17 = .ok (.aload_n 0, 1) := by decide +kernel
theorem dX6_comesProbe_18 : decode cX6_comesProbe 18 = .ok (.iload_n 1, 1) := by decide +kernel
theorem dX6_comesProbe_19 : decode cX6_comesProbe 19 = .ok (.iload_n 2, 1) := by decide +kernel
theorem dX6_comesProbe_20 : decode cX6_comesProbe 20 = .ok (.aload_n 0, 1) := by decide +kernel
theorem dX6_comesProbe_21 : decode cX6_comesProbe 21 = .ok (.getfield 88, 3) := by decide +kernel
theorem dX6_comesProbe_24 : decode cX6_comesProbe 24 = .ok (.invokevirtual 104, 3) := by decide +kernel
theorem dX6_comesProbe_27 : decode cX6_comesProbe 27 = .ok (.return_, 1) := by decide +kernel
theorem dX6_comesProbe_28 : decode cX6_comesProbe 28 = .ok (.iload_n 3, 1) := by decide +kernel
theorem dX6_comesProbe_29 : decode cX6_comesProbe 29 = .ok (.ifCond .eq 17, 3) := by decide +kernel
theorem dX6_comesProbe_32 : decode cX6_comesProbe 32 = .ok (.aload_n 0, 1) := by decide +kernel
theorem dX6_comesProbe_33 : decode cX6_comesProbe 33 = .ok (.getfield 88, 3) := by decide +kernel
theorem dX6_comesProbe_36 : decode cX6_comesProbe 36 = .ok (.aload_n 0, 1) := by decide +kernel
theorem dX6_comesProbe_37 : decode cX6_comesProbe 37 = .ok (.getfield 7, 3) := by decide +kernel
theorem dX6_comesProbe_40 : decode cX6_comesProbe 40 = .ok (.iload_n 2, 1) := by decide +kernel
theorem dX6_comesProbe_41 : decode cX6_comesProbe 41 = .ok (.iaload, 1) := by decide +kernel
theorem dX6_comesProbe_42 : decode cX6_comesProbe 42 = .ok (.if_icmp .ge 4, 3) := by decide +kernel
theorem dX6_comesProbe_45 : decode cX6_comesProbe 45 = .ok (.return_, 1) := by decide +kernel
theorem dX6_comesProbe_46 : decode cX6_comesProbe 46 = .ok (.iload_n 3, 1) := by decide +kernel
theorem dX6_comesProbe_47 : decode cX6_comesProbe 47 = .ok (.ifCond .eq 11, 3) := by decide +kernel
theorem dX6_comesProbe_50 : decode cX6_comesProbe 50 = .ok (.aload_n 0, 1) := by decide +kernel
theorem dX6_comesProbe_51 : decode cX6_comesProbe 51 = .ok (.iload_n 1, 1) := by decide +kernel
theorem dX6_comesProbe_52 : decode cX6_comesProbe 52 = .ok (.iload_n 2, 1) := by decide +kernel
theorem dX6_comesProbe_53 : decode cX6_comesProbe 53 = .ok (.iconst 1, 1) := by decide +kernel
theorem dX6_comesProbe_54 : decode cX6_comesProbe 54 = .ok (.iconst 2, 1) := by decide +kernel
theorem dX6_comesProbe_55 : decode cX6_comesProbe 55 = .ok (.invokevirtual 59, 3) := by decide +kernel
theorem dX6_comesProbe_58 : decode cX6_comesProbe 58 = .ok (.aload_n 0, 1) := by decide +kernel
theorem dX6_comesProbe_59 : decode cX6_comesProbe 59 = .ok (.dup, 1) := by decide +kernel
theorem dX6_comesProbe_60 : decode cX6_comesProbe 60 = .ok (.getfield 94, 3) := by decide +kernel
theorem dX6_comesProbe_63 : decode cX6_comesProbe 63 = .ok (.iconst 1, 1) := by decide +kernel
theorem dX6_comesProbe_64 : decode cX6_comesProbe 64 = .ok (.isub, 1) := by decide +kernel
theorem dX6_comesProbe_65 : decode cX6_comesProbe 65 = .ok (.putfield 94, 3) := by decide +kernel
theorem dX6_comesProbe_68 : decode cX6_comesProbe 68 = .ok (.aload_n 0, 1) := by decide +kernel
theorem dX6_comesProbe_69 : decode cX6_comesProbe 69 = .ok (.getfield 94, 3) := by decide +kernel
theorem dX6_comesProbe_72 : decode cX6_comesProbe 72 = .ok (.iconst 1, 1) := by decide +kernel
theorem dX6_comesProbe_73 : decode cX6_comesProbe 73 = .ok (.if_icmp .lt 11, 3) := by decide +kernel
theorem dX6_comesProbe_76 : decode cX6_comesProbe 76 = .ok (.aload_n 0, 1) := by decide +kernel
theorem dX6_comesProbe_77 : decode cX6_comesProbe 77 = .ok (.iload_n 1, 1) := by decide +kernel
theorem dX6_comesProbe_78 : decode cX6_comesProbe 78 = .ok (.invokevirtual 100, 3) := by decide +kernel
theorem dX6_comesProbe_81 : decode cX6_comesProbe 81 = .ok (.goto 23, 3) := by decide +kernel
theorem dX6_comesProbe_84 : decode cX6_comesProbe 84 = .ok (.aload_n 0, 1) := by decide +kernel
theorem dX6_comesProbe_85 : decode cX6_comesProbe 85 = .ok (.iload_n 1, 1) := by decide +kernel
theorem dX6_comesProbe_86 : decode cX6_comesProbe 86 = .ok (.aload_n 0, 1) := by decide +kernel
theorem dX6_comesProbe_87 : decode cX6_comesProbe 87 = .ok (.getfield 108, 3) := by decide +kernel
theorem dX6_comesProbe_90 : decode cX6_comesProbe 90 = .ok (.iconst 3, 1) := by decide +kernel
theorem dX6_comesProbe_91 : decode cX6_comesProbe 91 = .ok (.aload_n 0, 1) := by decide +kernel
theorem dX6_comesProbe_92 : decode cX6_comesProbe 92 = .ok (.getfield 88, 3) := by decide +kernel
theorem dX6_comesProbe_95 : decode cX6_comesProbe 95 = .ok (.aload_n 0, 1) := by decide +kernel
theorem dX6_comesProbe_96 : decode cX6_comesProbe 96 = .ok (.getfield 91, 3) := by decide +kernel
theorem dX6_comesProbe_99 : decode cX6_comesProbe 99 = .ok (.iconst (-1), 1) := by decide +kernel
theorem dX6_comesProbe_100 : decode cX6_comesProbe 100 = .ok (.iconst (-1), 1) := by decide +kernel
theorem dX6_comesProbe_101 : decode cX6_comesProbe 101 = .ok (.invokevirtual 63, 3) := by decide +kernel
theorem dX6_comesProbe_104 : decode cX6_comesProbe 104 = .ok (.return_, 1) := by decide +kernel
theorem dX6_comesReply_0 : decode cX6_comesReply 0 = .ok (.aload_n 0, 1) := by decide +kernel
theorem dX6_comesReply_1 : decode cX6_comesReply 1 = .ok (.getfield 88, 3) := by decide +kernel
theorem dX6_comesReply_4 : decode cX6_comesReply 4 = .ok (.aload_n 0, 1) := by decide +kernel
theorem dX6_comesReply_5 : decode cX6_comesReply 5 = .ok (.getfield 7, 3) := by decide +kernel
theorem dX6_comesReply_8 : decode cX6_comesReply 8 = .ok (.iload_n 2, 1) := by decide +kernel
theorem dX6_comesReply_9 : decode cX6_comesReply 9 = .ok (.iaload, 1) := by decide +kernel
theorem dX6_comesReply_10 : decode cX6_comesReply 10 = .ok (.if_icmp .eq 9, 3) := by decide +kernel
theorem dX6_comesReply_13 : decode cX6_comesReply 13 = .ok (.aload_n 0, 1) := by decide +kernel
theorem dX6_comesReply_14 : decode cX6_comesReply 14 = .ok (.iload_n 1, 1) := by decide +kernel
theorem dX6_comesReply_15 : decode cX6_comesReply 15 = .ok (.invokevirtual 100, 3) := by decide +kernel
theorem dX6_comesReply_18 : decode cX6_comesReply 18 = .ok (.return_, 1) := by decide +kernel
theorem dX6_comesReply_19 : decode cX6_comesReply 19 = .ok (.iload_n 3, 1) := by decide +kernel
theorem dX6_comesReply_20 : decode cX6_comesReply 20 = .ok (.ifCond .eq 52, 3) := by decide +kernel
theorem dX6_comesReply_23 : decode cX6_comesReply 23 = .ok (.aload_n 0, 1) := by decide +kernel
theorem dX6_comesReply_24 : decode cX6_comesReply 24 = .ok (.iload_n 1, 1) := by decide +kernel
theorem dX6_comesReply_25 : decode cX6_comesReply 25 = .ok (.iload_n 2, 1) := by decide +kernel
theorem dX6_comesReply_26 : decode cX6_comesReply 26 = .ok (.iconst 5, 1) := by decide +kernel
theorem dX6_comesReply_27 : decode cX6_comesReply 27 = .ok (.aload_n 0, 1) := by decide +kernel
theorem dX6_comesReply_28 : decode cX6_comesReply 28 = .ok (.iload_n 1, 1) := by decide +kernel
theorem dX6_comesReply_29 : decode cX6_comesReply 29 = .ok (.iload_n 2, 1) := by decide +kernel
theorem dX6_comesReply_30 : decode cX6_comesReply 30 = .ok (.iconst 5, 1) := by decide +kernel
theorem dX6_comesReply_31 : decode cX6_comesReply 31 = .ok (.invokevirtual 56, 3) := by decide +kernel
theorem dX6_comesReply_34 : decode cX6_comesReply 34 = .ok (.iconst 1, 1) := by decide +kernel
theorem dX6_comesReply_35 : decode cX6_comesReply 35 = .ok (.iadd, 1) := by decide +kernel
theorem dX6_comesReply_36 : decode cX6_comesReply 36 = .ok (.invokevirtual 59, 3) := by decide +kernel
theorem dX6_comesReply_39 : decode cX6_comesReply 39 = .ok (.aload_n 0, 1) := by decide +kernel
theorem dX6_comesReply_40 : decode cX6_comesReply 40 = .ok (.iload_n 1, 1) := by decide +kernel
theorem dX6_comesReply_41 : decode cX6_comesReply 41 = .ok (.iload_n 2, 1) := by decide +kernel
theorem dX6_comesReply_42 : decode cX6_comesReply 42 = .ok (.iconst 5, 1) := by decide +kernel
theorem dX6_comesReply_43 : decode cX6_comesReply 43 = .ok (.invokevirtual 56, 3) := by decide +kernel
theorem dX6_comesReply_46 : decode cX6_comesReply 46 = .ok (.iconst 2, 1) := by decide +kernel
theorem dX6_comesReply_47 : decode cX6_comesReply 47 = .ok (.if_icmp .ne 25, 3) := by decide +kernel
theorem dX6_comesReply_50 : decode cX6_comesReply 50 = .ok (.aload_n 0, 1) := by decide +kernel
theorem dX6_comesReply_51 : decode cX6_comesReply 51 = .ok (.iload_n 1, 1) := by decide +kernel
theorem dX6_comesReply_52 : decode cX6_comesReply 52 = .ok (.iload_n 2, 1) := by decide +kernel
theorem dX6_comesReply_53 : decode cX6_comesReply 53 = .ok (.iconst 3, 1) := by decide +kernel
theorem dX6_comesReply_54 : decode cX6_comesReply 54 = .ok (.aload_n 0, 1) := by decide +kernel
theorem dX6_comesReply_55 : decode cX6_comesReply 55 = .ok (.iload_n 1, 1) := by decide +kernel
theorem dX6_comesReply_56 : decode cX6_comesReply 56 = .ok (.iload_n 2, 1) := by decide +kernel
theorem dX6_comesReply_57 : decode cX6_comesReply 57 = .ok (.iconst 3, 1) := by decide +kernel
theorem dX6_comesReply_58 : decode cX6_comesReply 58 = .ok (.invokevirtual 56, 3) := by decide +kernel
theorem dX6_comesReply_61 : decode cX6_comesReply 61 = .ok (.iconst 1, 1) := by decide +kernel
theorem dX6_comesReply_62 : decode cX6_comesReply 62 = .ok (.iadd, 1) := by decide +kernel
theorem dX6_comesReply_63 : decode cX6_comesReply 63 = .ok (.invokevirtual 59, 3) := by decide +kernel
theorem dX6_comesReply_66 : decode cX6_comesReply 66 = .ok (.aload_n 0, 1) := by decide +kernel
theorem dX6_comesReply_67 : decode cX6_comesReply 67 = .ok (.iload_n 1, 1) := by decide +kernel
theorem dX6_comesReply_68 : decode cX6_comesReply 68 = .ok (.iload_n 2, 1) := by decide +kernel
theorem dX6_comesReply_69 : decode cX6_comesReply 69 = .ok (.invokevirtual 75, 3) := by decide +kernel
theorem dX6_comesReply_72 : decode cX6_comesReply 72 = .ok (.return_, 1) := by decide +kernel
theorem dX6_comesByPhases_0 : decode cX6_comesByPhases 0 = .ok (.iload_n 3, 1) := by decide +kernel
theorem dX6_comesByPhases_1 : decode cX6_comesByPhases 1 = .ok (.ifCond .ne 9, 3) := by decide +kernel
theorem dX6_comesByPhases_4 : decode cX6_comesByPhases 4 = .ok (.aload_n 0, 1) := by decide +kernel
theorem dX6_comesByPhases_5 : decode cX6_comesByPhases 5 = .ok (.iload_n 1, 1) := by decide +kernel
theorem dX6_comesByPhases_6 : decode cX6_comesByPhases 6 = .ok (.invokevirtual 100, 3) := by decide +kernel
theorem dX6_comesByPhases_9 : decode cX6_comesByPhases 9 = .ok (.return_, 1) := by decide +kernel
theorem dX6_comesByPhases_10 : decode cX6_comesByPhases 10 = .ok (.aload_n 0, 1) := by decide +kernel
theorem dX6_comesByPhases_11 : decode cX6_comesByPhases 11 = .ok (.iload_n 1, 1) := by decide +kernel
theorem dX6_comesByPhases_12 : decode cX6_comesByPhases 12 = .ok (.iload_n 2, 1) := by decide +kernel
theorem dX6_comesByPhases_13 : decode cX6_comesByPhases 13 = .ok (.bipush 7, 2) := by decide +kernel
theorem dX6_comesByPhases_15 : decode cX6_comesByPhases 15 = .ok (.invokevirtual 56, 3) := by decide +kernel
theorem dX6_comesByPhases_18 : decode cX6_comesByPhases 18 = .ok (.iconst 1, 1) := by decide +kernel
theorem dX6_comesByPhases_19 : decode cX6_comesByPhases 19 = .ok (.if_icmp .ne 7, 3) := by decide +kernel
theorem dX6_comesByPhases_22 : decode cX6_comesByPhases 22 = .ok (.iconst 1, 1) := by decide +kernel
theorem dX6_comesByPhases_23 : decode cX6_comesByPhases 23 = .ok (.goto 4, 3) := by decide +kernel
theorem dX6_comesByPhases_26 : decode cX6_comesByPhases 26 = .ok (.iconst 0, 1) := by decide +kernel
theorem dX6_comesByPhases_27 : decode cX6_comesByPhases 27 = .ok (.istore 4, 2) := by decide +kernel
theorem dX6_comesByPhases_29 : decode cX6_comesByPhases 29 = .ok (.aload_n 0, 1) := by decide +kernel
theorem dX6_comesByPhases_30 : decode cX6_comesByPhases 30 = .ok (.getfield 85, 3) := by decide +kernel
theorem dX6_comesByPhases_33 : decode cX6_comesByPhases 33 = .ok (.iconst 4, 1) := by decide +kernel
theorem dX6_comesByPhases_34 : decode cX6_comesByPhases 34 = .ok (.if_icmp .ne 75, 3) := by decide +kernel
theorem dX6_comesByPhases_37 : decode cX6_comesByPhases 37 = .ok (.iload 4, 2) := by decide +kernel
theorem dX6_comesByPhases_39 : decode cX6_comesByPhases 39 = .ok (.ifCond .ne 70, 3) := by decide +kernel
theorem dX6_comesByPhases_42 : decode cX6_comesByPhases 42 = .ok (.aload_n 0, 1) := by decide +kernel
theorem dX6_comesByPhases_43 : decode cX6_comesByPhases 43 = .ok (.getfield 88, 3) := by decide +kernel
theorem dX6_comesByPhases_46 : decode cX6_comesByPhases 46 = .ok (.aload_n 0, 1) := by decide +kernel
theorem dX6_comesByPhases_47 : decode cX6_comesByPhases 47 = .ok (.iload_n 1, 1) := by decide +kernel
theorem dX6_comesByPhases_48 : decode cX6_comesByPhases 48 = .ok (.iload_n 2, 1) := by decide +kernel
theorem dX6_comesByPhases_49 : decode cX6_comesByPhases 49 = .ok (.iconst 2, 1) := by decide +kernel
theorem dX6_comesByPhases_50 : decode cX6_comesByPhases 50 = .ok (.invokevirtual 56, 3) := by decide +kernel
theorem dX6_comesByPhases_53 : decode cX6_comesByPhases 53 = .ok (.if_icmp .ne 16, 3) := by decide +kernel
theorem dX6_comesByPhases_56 : decode cX6_comesByPhases 56 = .ok (.aload_n 0, 1) := by decide +kernel
theorem dX6_comesByPhases_57 : decode cX6_comesByPhases 57 = .ok (.iload_n 1, 1) := by decide +kernel
theorem dX6_comesByPhases_58 : decode cX6_comesByPhases 58 = .ok (.iload_n 2, 1) := by decide +kernel
theorem dX6_comesByPhases_59 : decode cX6_comesByPhases 59 = .ok (.aload_n 0, 1) := by decide +kernel
theorem dX6_comesByPhases_60 : decode cX6_comesByPhases 60 = .ok (.getfield 88, 3) := by decide +kernel
theorem dX6_comesByPhases_63 : decode cX6_comesByPhases 63 = .ok (.invokevirtual 104, 3) := by decide +kernel
theorem dX6_comesByPhases_66 : decode cX6_comesByPhases 66 = .ok (.goto 43, 3) := by decide +kernel
theorem dX6_comesByPhases_69 : decode cX6_comesByPhases 69 = .ok (.aload_n 0, 1) := by decide +kernel
theorem dX6_comesByPhases_70 : decode cX6_comesByPhases 70 = .ok (.iload_n 1, 1) := by decide +kernel
theorem dX6_comesByPhases_71 : decode cX6_comesByPhases 71 = .ok (.iload_n 2, 1) := by decide +kernel
theorem dX6_comesByPhases_72 : decode cX6_comesByPhases 72 = .ok (.bipush 6, 2) := by decide +kernel
theorem dX6_comesByPhases_74 : decode cX6_comesByPhases 74 = .ok (.aload_n 0, 1) := by decide +kernel
theorem dX6_comesByPhases_75 : decode cX6_comesByPhases 75 = .ok (.getfield 88, 3) := by decide +kernel
theorem dX6_comesByPhases_78 : decode cX6_comesByPhases 78 = .ok (.invokevirtual 59, 3) := by decide +kernel
theorem dX6_comesByPhases_81 : decode cX6_comesByPhases 81 = .ok (.aload_n 0, 1) := by decide +kernel
theorem dX6_comesByPhases_82 : decode cX6_comesByPhases 82 = .ok (.iload_n 1, 1) := by decide +kernel
theorem dX6_comesByPhases_83 : decode cX6_comesByPhases 83 = .ok (.iload_n 2, 1) := by decide +kernel
theorem dX6_comesByPhases_84 : decode cX6_comesByPhases 84 = .ok (.bipush 7, 2) := by decide +kernel
theorem dX6_comesByPhases_86 : decode cX6_comesByPhases 86 = .ok (.iconst 1, 1) := by decide +kernel
theorem dX6_comesByPhases_87 : decode cX6_comesByPhases 87 = .ok (.invokevirtual 59, 3) := by decide +kernel
theorem dX6_comesByPhases_90 : decode cX6_comesByPhases 90 = .ok (.aload_n 0, 1) := by decide +kernel
theorem dX6_comesByPhases_91 : decode cX6_comesByPhases 91 = .ok (.iload_n 1, 1) := by decide +kernel
theorem dX6_comesByPhases_92 : decode cX6_comesByPhases 92 = .ok (.aload_n 0, 1) := by decide +kernel
theorem dX6_comesByPhases_93 : decode cX6_comesByPhases 93 = .ok (.iload_n 1, 1) := by decide +kernel
theorem dX6_comesByPhases_94 : decode cX6_comesByPhases 94 = .ok (.iload_n 2, 1) := by decide +kernel
theorem dX6_comesByPhases_95 : decode cX6_comesByPhases 95 = .ok (.invokevirtual 71, 3) := by decide +kernel
theorem dX6_comesByPhases_98 : decode cX6_comesByPhases 98 = .ok (.iconst 5, 1) := by decide +kernel
theorem dX6_comesByPhases_99 : decode cX6_comesByPhases 99 = .ok (.aload_n 0, 1) := by decide +kernel
theorem dX6_comesByPhases_100 : decode cX6_comesByPhases 100 = .ok (.getfield 88, 3) := by decide +kernel
theorem dX6_comesByPhases_103 : decode cX6_comesByPhases 103 = .ok (.iconst (-1), 1) := by decide +kernel
theorem dX6_comesByPhases_104 : decode cX6_comesByPhases 104 = .ok (.iconst (-1), 1) := by decide +kernel
theorem dX6_comesByPhases_105 : decode cX6_comesByPhases 105 = .ok (.iconst (-1), 1) := by decide +kernel
theorem dX6_comesByPhases_106 : decode cX6_comesByPhases 106 = .ok (.invokevirtual 63, 3) := by decide +kernel
theorem dX6_comesByPhases_109 : decode cX6_comesByPhases 109 = .ok (.aload_n 0, 1) := by decide +kernel
theorem dX6_comesByPhases_110 : decode cX6_comesByPhases 110 = .ok (.getfield 85, 3) := by decide +kernel
theorem dX6_comesByPhases_113 : decode cX6_comesByPhases 113 = .ok (.iconst 5, 1) := by decide +kernel
theorem dX6_comesByPhases_114 : decode cX6_comesByPhases 114 = .ok (.if_icmp .ne 101, 3) := by decide +kernel
theorem dX6_comesByPhases_117 : decode cX6_comesByPhases 117 = .ok (.iload 4, 2) := by decide +kernel
theorem dX6_comesByPhases_119 : decode cX6_comesByPhases 119 = .ok (.ifCond .eq 96, 3) := by decide +kernel
theorem dX6_comesByPhases_122 : decode cX6_comesByPhases 122 = .ok (.aload_n 0, 1) := by decide +kernel
theorem dX6_comesByPhases_123 : decode cX6_comesByPhases 123 = .ok (.iload_n 1, 1) := by decide +kernel
theorem dX6_comesByPhases_124 : decode cX6_comesByPhases 124 = .ok (.iload_n 2, 1) := by decide +kernel
theorem dX6_comesByPhases_125 : decode cX6_comesByPhases 125 = .ok (.bipush 6, 2) := by decide +kernel
theorem dX6_comesByPhases_127 : decode cX6_comesByPhases 127 = .ok (.invokevirtual 56, 3) := by decide +kernel
theorem dX6_comesByPhases_130 : decode cX6_comesByPhases 130 = .ok (.istore 5, 2) := by decide +kernel
theorem dX6_comesByPhases_132 : decode cX6_comesByPhases 132 = .ok (.iload 5, 2) := by decide +kernel
theorem dX6_comesByPhases_134 : decode cX6_comesByPhases 134 = .ok (.aload_n 0, 1) := by decide +kernel
theorem dX6_comesByPhases_135 : decode cX6_comesByPhases 135 = .ok (.iload_n 1, 1) := by decide +kernel
theorem dX6_comesByPhases_136 : decode cX6_comesByPhases 136 = .ok (.iload_n 2, 1) := by decide +kernel
theorem dX6_comesByPhases_137 : decode cX6_comesByPhases 137 = .ok (.iconst 2, 1) := by decide +kernel
theorem dX6_comesByPhases_138 : decode cX6_comesByPhases 138 = .ok (.invokevirtual 56, 3) := by decide +kernel
theorem dX6_comesByPhases_141 : decode cX6_comesByPhases 141 = .ok (.if_icmp .le 66, 3) := by decide +kernel
theorem dX6_comesByPhases_144 : decode cX6_comesByPhases 144 = .ok (.iload 5, 2) := by decide +kernel
theorem dX6_comesByPhases_146 : decode cX6_comesByPhases 146 = .ok (.aload_n 0, 1) := by decide +kernel
theorem dX6_comesByPhases_147 : decode cX6_comesByPhases 147 = .ok (.getfield 88, 3) := by decide +kernel
theorem dX6_comesByPhases_150 : decode cX6_comesByPhases 150 = .ok (.if_icmp .le 57, 3) := by decide +kernel
theorem dX6_comesByPhases_153 : decode cX6_comesByPhases 153 = .ok (.aload_n 0, 1) := by decide +kernel
theorem dX6_comesByPhases_154 : decode cX6_comesByPhases 154 = .ok (.iload_n 1, 1) := by decide +kernel
theorem dX6_comesByPhases_155 : decode cX6_comesByPhases 155 = .ok (.iload_n 2, 1) := by decide +kernel
theorem dX6_comesByPhases_156 : decode cX6_comesByPhases 156 = .ok (.iconst 2, 1) := by decide +kernel
theorem dX6_comesByPhases_157 : decode cX6_comesByPhases 157 = .ok (.iload 5, 2) := by decide +kernel
theorem dX6_comesByPhases_159 : decode cX6_comesByPhases 159 = .ok (.invokevirtual 59, 3) := by decide +kernel
theorem dX6_comesByPhases_162 : decode cX6_comesByPhases 162 = .ok (.aload_n 0, 1) := by decide +kernel
theorem dX6_comesByPhases_163 : decode cX6_comesByPhases 163 = .ok (.iload_n 1, 1) := by decide +kernel
theorem dX6_comesByPhases_164 : decode cX6_comesByPhases 164 = .ok (.iload_n 2, 1) := by decide +kernel
theorem dX6_comesByPhases_165 : decode cX6_comesByPhases 165 = .ok (.iconst 3, 1) := by decide +kernel
theorem dX6_comesByPhases_166 : decode cX6_comesByPhases 166 = .ok (.aload_n 0, 1) := by decide +kernel
theorem dX6_comesByPhases_167 : decode cX6_comesByPhases 167 = .ok (.iload_n 1, 1) := by decide +kernel
theorem dX6_comesByPhases_168 : decode cX6_comesByPhases 168 = .ok (.iload_n 2, 1) := by decide +kernel
theorem dX6_comesByPhases_169 : decode cX6_comesByPhases 169 = .ok (.iconst 3, 1) := by decide +kernel
theorem dX6_comesByPhases_170 : decode cX6_comesByPhases 170 = .ok (.invokevirtual 56, 3) := by decide +kernel
theorem dX6_comesByPhases_173 : decode cX6_comesByPhases 173 = .ok (.iconst 1, 1) := by decide +kernel
theorem dX6_comesByPhases_174 : decode cX6_comesByPhases 174 = .ok (.iadd, 1) := by decide +kernel
theorem dX6_comesByPhases_175 : decode cX6_comesByPhases 175 = .ok (.invokevirtual 59, 3) := by decide +kernel
theorem dX6_comesByPhases_178 : decode cX6_comesByPhases 178 = .ok (.aload_n 0, 1) := by decide +kernel
theorem dX6_comesByPhases_179 : decode cX6_comesByPhases 179 = .ok (.iload_n 1, 1) := by decide +kernel
theorem dX6_comesByPhases_180 : decode cX6_comesByPhases 180 = .ok (.iload_n 2, 1) := by decide +kernel
theorem dX6_comesByPhases_181 : decode cX6_comesByPhases 181 = .ok (.bipush 7, 2) := by decide +kernel
theorem dX6_comesByPhases_183 : decode cX6_comesByPhases 183 = .ok (.iconst 0, 1) := by decide +kernel
theorem dX6_comesByPhases_184 : decode cX6_comesByPhases 184 = .ok (.invokevirtual 59, 3) := by decide +kernel
theorem dX6_comesByPhases_187 : decode cX6_comesByPhases 187 = .ok (.aload_n 0, 1) := by decide +kernel
theorem dX6_comesByPhases_188 : decode cX6_comesByPhases 188 = .ok (.iload_n 1, 1) := by decide +kernel
theorem dX6_comesByPhases_189 : decode cX6_comesByPhases 189 = .ok (.aload_n 0, 1) := by decide +kernel
theorem dX6_comesByPhases_190 : decode cX6_comesByPhases 190 = .ok (.iload_n 1, 1) := by decide +kernel
theorem dX6_comesByPhases_191 : decode cX6_comesByPhases 191 = .ok (.iload_n 2, 1) := by decide +kernel
theorem dX6_comesByPhases_192 : decode cX6_comesByPhases 192 = .ok (.invokevirtual 71, 3) := by decide +kernel
theorem dX6_comesByPhases_195 : decode cX6_comesByPhases 195 = .ok (.iconst 4, 1) := by decide +kernel
theorem dX6_comesByPhases_196 : decode cX6_comesByPhases 196 = .ok (.iload 5, 2) := by decide +kernel
theorem dX6_comesByPhases_198 : decode cX6_comesByPhases 198 = .ok (.iconst (-1), 1) := by decide +kernel
theorem dX6_comesByPhases_199 : decode cX6_comesByPhases 199 = .ok (.iconst (-1), 1) := by decide +kernel
theorem dX6_comesByPhases_200 : decode cX6_comesByPhases 200 = .ok (.iconst (-1), 1) := by decide +kernel
theorem dX6_comesByPhases_201 : decode cX6_comesByPhases 201 = .ok (.invokevirtual 63, 3) := by decide +kernel
theorem dX6_comesByPhases_204 : decode cX6_comesByPhases 204 = .ok (.goto 11, 3) := by decide +kernel
theorem dX6_comesByPhases_207 : decode cX6_comesByPhases 207 = .ok (.aload_n 0, 1) := by decide +kernel
theorem dX6_comesByPhases_208 : decode cX6_comesByPhases 208 = .ok (.iload_n 1, 1) := by decide +kernel
theorem dX6_comesByPhases_209 : decode cX6_comesByPhases 209 = .ok (.iload_n 2, 1) := by decide +kernel
theorem dX6_comesByPhases_210 : decode cX6_comesByPhases 210 = .ok (.iconst 1, 1) := by decide +kernel
theorem dX6_comesByPhases_211 : decode cX6_comesByPhases 211 = .ok (.iconst 2, 1) := by decide +kernel
theorem dX6_comesByPhases_212 : decode cX6_comesByPhases 212 = .ok (.invokevirtual 59, 3) := by decide +kernel
theorem dX6_comesByPhases_215 : decode cX6_comesByPhases 215 = .ok (.return_, 1) := by decide +kernel
theorem dX6_comesByDraws_0 : decode cX6_comesByDraws 0 = .ok (.aload_n 0, 1) := by decide +kernel
theorem dX6_comesByDraws_1 : decode cX6_comesByDraws 1 = .ok (.iload_n 1, 1) := by decide +kernel
theorem dX6_comesByDraws_2 : decode cX6_comesByDraws 2 = .ok (.iload_n 2, 1) := by decide +kernel
theorem dX6_comesByDraws_3 : decode cX6_comesByDraws 3 = .ok (.iconst 3, 1) := by decide +kernel
theorem dX6_comesByDraws_4 : decode cX6_comesByDraws 4 = .ok (.invokevirtual 56, 3) := by decide +kernel
theorem dX6_comesByDraws_7 : decode cX6_comesByDraws 7 = .ok (.istore 4, 2) := by decide +kernel
theorem dX6_comesByDraws_9 : decode cX6_comesByDraws 9 = .ok (.aload_n 0, 1) := by decide +kernel
theorem dX6_comesByDraws_10 : decode cX6_comesByDraws 10 = .ok (.iload_n 1, 1) := by decide +kernel
theorem dX6_comesByDraws_11 : decode cX6_comesByDraws 11 = .ok (.iload_n 2, 1) := by decide +kernel
theorem dX6_comesByDraws_12 : decode cX6_comesByDraws 12 = .ok (.iconst 2, 1) := by decide +kernel
theorem dX6_comesByDraws_13 : decode cX6_comesByDraws 13 = .ok (.invokevirtual 56, 3) := by decide +kernel
theorem dX6_comesByDraws_16 : decode cX6_comesByDraws 16 = .ok (.istore 5, 2) := by decide +kernel
theorem dX6_comesByDraws_18 : decode cX6_comesByDraws 18 = .ok (.aload_n 0, 1) := by decide +kernel
theorem dX6_comesByDraws_19 : decode cX6_comesByDraws 19 = .ok (.getfield 94, 3) := by decide +kernel
theorem dX6_comesByDraws_22 : decode cX6_comesByDraws 22 = .ok (.aload_n 0, 1) := by decide +kernel
theorem dX6_comesByDraws_23 : decode cX6_comesByDraws 23 = .ok (.getfield 41, 3) := by decide +kernel
theorem dX6_comesByDraws_26 : decode cX6_comesByDraws 26 = .ok (.if_icmp .ne 50, 3) := by decide +kernel
theorem dX6_comesByDraws_29 : decode cX6_comesByDraws 29 = .ok (.iload_n 3, 1) := by decide +kernel
theorem dX6_comesByDraws_30 : decode cX6_comesByDraws 30 = .ok (.ifCond .eq 24, 3) := by decide +kernel
theorem dX6_comesByDraws_33 : decode cX6_comesByDraws 33 = .ok (.aload_n 0, 1) := by decide +kernel
theorem dX6_comesByDraws_34 : decode cX6_comesByDraws 34 = .ok (.getfield 97, 3) := by decide +kernel
theorem dX6_comesByDraws_37 : decode cX6_comesByDraws 37 = .ok (.iconst 1, 1) := by decide +kernel
theorem dX6_comesByDraws_38 : decode cX6_comesByDraws 38 = .ok (.if_icmp .ne 16, 3) := by decide +kernel
theorem dX6_comesByDraws_41 : decode cX6_comesByDraws 41 = .ok (.aload_n 0, 1) := by decide +kernel
theorem dX6_comesByDraws_42 : decode cX6_comesByDraws 42 = .ok (.iload_n 1, 1) := by decide +kernel
theorem dX6_comesByDraws_43 : decode cX6_comesByDraws 43 = .ok (.iload_n 2, 1) := by decide +kernel
theorem dX6_comesByDraws_44 : decode cX6_comesByDraws 44 = .ok (.aload_n 0, 1) := by decide +kernel
theorem dX6_comesByDraws_45 : decode cX6_comesByDraws 45 = .ok (.getfield 88, 3) := by decide +kernel
theorem dX6_comesByDraws_48 : decode cX6_comesByDraws 48 = .ok (.invokevirtual 104, 3) := by decide +kernel
theorem dX6_comesByDraws_51 : decode cX6_comesByDraws 51 = .ok (.goto 24, 3) := by decide +kernel
theorem dX6_comesByDraws_54 : decode cX6_comesByDraws 54 = .ok (.iload_n 3, 1) := by decide +kernel
theorem dX6_comesByDraws_55 : decode cX6_comesByDraws 55 = .ok (.ifCond .eq 20, 3) := by decide +kernel
theorem dX6_comesByDraws_58 : decode cX6_comesByDraws 58 = .ok (.aload_n 0, 1) := by decide +kernel
theorem dX6_comesByDraws_59 : decode cX6_comesByDraws 59 = .ok (.iload_n 1, 1) := by decide +kernel
theorem dX6_comesByDraws_60 : decode cX6_comesByDraws 60 = .ok (.iload_n 2, 1) := by decide +kernel
theorem dX6_comesByDraws_61 : decode cX6_comesByDraws 61 = .ok (.iconst 3, 1) := by decide +kernel
theorem dX6_comesByDraws_62 : decode cX6_comesByDraws 62 = .ok (.iload 4, 2) := by decide +kernel
theorem dX6_comesByDraws_64 : decode cX6_comesByDraws 64 = .ok (.iconst 1, 1) := by decide +kernel
theorem dX6_comesByDraws_65 : decode cX6_comesByDraws 65 = .ok (.iadd, 1) := by decide +kernel
theorem dX6_comesByDraws_66 : decode cX6_comesByDraws 66 = .ok (.invokevirtual 59, 3) := by decide +kernel
theorem dX6_comesByDraws_69 : decode cX6_comesByDraws 69 = .ok (.aload_n 0, 1) := by decide +kernel
theorem dX6_comesByDraws_70 : decode cX6_comesByDraws 70 = .ok (.iload_n 1, 1) := by decide +kernel
theorem dX6_comesByDraws_71 : decode cX6_comesByDraws 71 = .ok (.iload_n 2, 1) := by decide +kernel
theorem dX6_comesByDraws_72 : decode cX6_comesByDraws 72 = .ok (.invokevirtual 79, 3) := by decide +kernel
theorem dX6_comesByDraws_75 : decode cX6_comesByDraws 75 = .ok (.return_, 1) := by decide +kernel
theorem dX6_comesByDraws_76 : decode cX6_comesByDraws 76 = .ok (.aload_n 0, 1) := by decide +kernel
theorem dX6_comesByDraws_77 : decode cX6_comesByDraws 77 = .ok (.getfield 91, 3) := by decide +kernel
theorem dX6_comesByDraws_80 : decode cX6_comesByDraws 80 = .ok (.iload 4, 2) := by decide +kernel
theorem dX6_comesByDraws_82 : decode cX6_comesByDraws 82 = .ok (.if_icmp .gt 21, 3) := by decide +kernel
theorem dX6_comesByDraws_85 : decode cX6_comesByDraws 85 = .ok (.aload_n 0, 1) := by decide +kernel
theorem dX6_comesByDraws_86 : decode cX6_comesByDraws 86 = .ok (.getfield 91, 3) := by decide +kernel
theorem dX6_comesByDraws_89 : decode cX6_comesByDraws 89 = .ok (.iload 4, 2) := by decide +kernel
theorem dX6_comesByDraws_91 : decode cX6_comesByDraws 91 = .ok (.if_icmp .ne 16, 3) := by decide +kernel
theorem dX6_comesByDraws_94 : decode cX6_comesByDraws 94 = .ok (.aload_n 0, 1) := by decide +kernel
theorem dX6_comesByDraws_95 : decode cX6_comesByDraws 95 = .ok (.getfield 88, 3) := by decide +kernel
theorem dX6_comesByDraws_98 : decode cX6_comesByDraws 98 = .ok (.iload 5, 2) := by decide +kernel
theorem dX6_comesByDraws_100 : decode cX6_comesByDraws 100 = .ok (.if_icmp .le 7, 3) := by decide +kernel
theorem dX6_comesByDraws_103 : decode cX6_comesByDraws 103 = .ok (.iconst 1, 1) := by decide +kernel
theorem dX6_comesByDraws_104 : decode cX6_comesByDraws 104 = .ok (.goto 4, 3) := by decide +kernel
theorem dX6_comesByDraws_107 : decode cX6_comesByDraws 107 = .ok (.iconst 0, 1) := by decide +kernel
theorem dX6_comesByDraws_108 : decode cX6_comesByDraws 108 = .ok (.istore 6, 2) := by decide +kernel
theorem dX6_comesByDraws_110 : decode cX6_comesByDraws 110 = .ok (.aload_n 0, 1) := by decide +kernel
theorem dX6_comesByDraws_111 : decode cX6_comesByDraws 111 = .ok (.getfield 91, 3) := by decide +kernel
theorem dX6_comesByDraws_114 : decode cX6_comesByDraws 114 = .ok (.iload 4, 2) := by decide +kernel
theorem dX6_comesByDraws_116 : decode cX6_comesByDraws 116 = .ok (.if_icmp .ne 16, 3) := by decide +kernel
theorem dX6_comesByDraws_119 : decode cX6_comesByDraws 119 = .ok (.aload_n 0, 1) := by decide +kernel
theorem dX6_comesByDraws_120 : decode cX6_comesByDraws 120 = .ok (.getfield 88, 3) := by decide +kernel
theorem dX6_comesByDraws_123 : decode cX6_comesByDraws 123 = .ok (.iload 5, 2) := by decide +kernel
theorem dX6_comesByDraws_125 : decode cX6_comesByDraws 125 = .ok (.if_icmp .ne 7, 3) := by decide +kernel
theorem dX6_comesByDraws_128 : decode cX6_comesByDraws 128 = .ok (.iconst 1, 1) := by decide +kernel
theorem dX6_comesByDraws_129 : decode cX6_comesByDraws 129 = .ok (.goto 4, 3) := by decide +kernel
theorem dX6_comesByDraws_132 : decode cX6_comesByDraws 132 = .ok (.iconst 0, 1) := by decide +kernel
theorem dX6_comesByDraws_133 : decode cX6_comesByDraws 133 = .ok (.istore 7, 2) := by decide +kernel
theorem dX6_comesByDraws_135 : decode cX6_comesByDraws 135 = .ok (.iload_n 3, 1) := by decide +kernel
theorem dX6_comesByDraws_136 : decode cX6_comesByDraws 136 = .ok (.ifCond .eq 14, 3) := by decide +kernel
theorem dX6_comesByDraws_139 : decode cX6_comesByDraws 139 = .ok (.iload 6, 2) := by decide +kernel
theorem dX6_comesByDraws_141 : decode cX6_comesByDraws 141 = .ok (.ifCond .ne 9, 3) := by decide +kernel
theorem dX6_comesByDraws_144 : decode cX6_comesByDraws 144 = .ok (.iload 7, 2) := by decide +kernel
theorem dX6_comesByDraws_146 : decode cX6_comesByDraws 146 = .ok (.ifCond .ne 4, 3) := by decide +kernel
theorem dX6_comesByDraws_149 : decode cX6_comesByDraws 149 = .ok (.return_, 1) := by decide +kernel
theorem dX6_comesByDraws_150 : decode cX6_comesByDraws 150 = .ok (.iload_n 3, 1) := by decide +kernel
theorem dX6_comesByDraws_151 : decode cX6_comesByDraws 151 = .ok (.ifCond .eq 16, 3) := by decide +kernel
theorem dX6_comesByDraws_154 : decode cX6_comesByDraws 154 = .ok (.iload 6, 2) := by decide +kernel
theorem dX6_comesByDraws_156 : decode cX6_comesByDraws 156 = .ok (.ifCond .eq 11, 3) := by decide +kernel
theorem dX6_comesByDraws_159 : decode cX6_comesByDraws 159 = .ok (.aload_n 0, 1) := by decide +kernel
theorem dX6_comesByDraws_160 : decode cX6_comesByDraws 160 = .ok (.iload_n 1, 1) := by decide +kernel
theorem dX6_comesByDraws_161 : decode cX6_comesByDraws 161 = .ok (.iload_n 2, 1) := by decide +kernel
theorem dX6_comesByDraws_162 : decode cX6_comesByDraws 162 = .ok (.iconst 1, 1) := by decide +kernel
theorem dX6_comesByDraws_163 : decode cX6_comesByDraws 163 = .ok (.iconst 2, 1) := by decide +kernel
theorem dX6_comesByDraws_164 : decode cX6_comesByDraws 164 = .ok (.invokevirtual 59, 3) := by decide +kernel
theorem dX6_comesByDraws_167 : decode cX6_comesByDraws 167 = .ok (.aload_n 0, 1) := by decide +kernel
theorem dX6_comesByDraws_168 : decode cX6_comesByDraws 168 = .ok (.iload_n 3, 1) := by decide +kernel
theorem dX6_comesByDraws_169 : decode cX6_comesByDraws 169 = .ok (.ifCond .eq 12, 3) := by decide +kernel
theorem dX6_comesByDraws_172 : decode cX6_comesByDraws 172 = .ok (.iload 7, 2) := by decide +kernel
theorem dX6_comesByDraws_174 : decode cX6_comesByDraws 174 = .ok (.ifCond .eq 7, 3) := by decide +kernel
theorem dX6_comesByDraws_177 : decode cX6_comesByDraws 177 = .ok (.iconst 0, 1) := by decide +kernel
theorem dX6_comesByDraws_178 : decode cX6_comesByDraws 178 = .ok (.goto 7, 3) := by decide +kernel
theorem dX6_comesByDraws_181 : decode cX6_comesByDraws 181 = .ok (.aload_n 0, 1) := by decide +kernel
theorem dX6_comesByDraws_182 : decode cX6_comesByDraws 182 = .ok (.getfield 97, 3) := by decide +kernel
theorem dX6_comesByDraws_185 : decode cX6_comesByDraws 185 = .ok (.putfield 97, 3) := by decide +kernel
theorem dX6_comesByDraws_188 : decode cX6_comesByDraws 188 = .ok (.aload_n 0, 1) := by decide +kernel
theorem dX6_comesByDraws_189 : decode cX6_comesByDraws 189 = .ok (.dup, 1) := by decide +kernel
theorem dX6_comesByDraws_190 : decode cX6_comesByDraws 190 = .ok (.getfield 94, 3) := by decide +kernel
theorem dX6_comesByDraws_193 : decode cX6_comesByDraws 193 = .ok (.iconst 1, 1) := by decide +kernel
theorem dX6_comesByDraws_194 : decode cX6_comesByDraws 194 = .ok (.iadd, 1) := by decide +kernel
theorem dX6_comesByDraws_195 : decode cX6_comesByDraws 195 = .ok (.putfield 94, 3) := by decide +kernel
theorem dX6_comesByDraws_198 : decode cX6_comesByDraws 198 = .ok (.aload_n 0, 1) := by decide +kernel
theorem dX6_comesByDraws_199 : decode cX6_comesByDraws 199 = .ok (.iload_n 1, 1) := by decide +kernel
theorem dX6_comesByDraws_200 : decode cX6_comesByDraws 200 = .ok (.invokevirtual 100, 3) := by decide +kernel
theorem dX6_comesByDraws_203 : decode cX6_comesByDraws 203 = .ok (.return_, 1) := by decide +kernel
theorem dX6_comes_0 : decode cX6_comes 0 = .ok (.aload_n 0, 1) := by decide +kernel
theorem dX6_comes_1 : decode cX6_comes 1 = .ok (.iload_n 1, 1) := by decide +kernel
theorem dX6_comes_2 : decode cX6_comes 2 = .ok (.iload_n 2, 1) := by decide +kernel
theorem dX6_comes_3 : decode cX6_comes 3 = .ok (.iconst 1, 1) := by decide +kernel
theorem dX6_comes_4 : decode cX6_comes 4 = .ok (.invokevirtual 56, 3) := by decide +kernel
theorem dX6_comes_7 : decode cX6_comes 7 = .ok (.ifCond .ne 11, 3) := by decide +kernel
theorem dX6_comes_10 : decode cX6_comes 10 = .ok (.aload_n 0, 1) := by decide +kernel
theorem dX6_comes_11 : decode cX6_comes 11 = .ok (.iload_n 1, 1) := by decide +kernel
theorem dX6_comes_12 : decode cX6_comes 12 = .ok (.iload_n 2, 1) := by decide +kernel
theorem dX6_comes_13 : decode cX6_comes 13 = .ok (.iconst 1, 1) := by decide +kernel
theorem dX6_comes_14 : decode cX6_comes 14 = .ok (.iconst 2, 1) := by decide +kernel
theorem dX6_comes_15 : decode cX6_comes 15 = .ok (.invokevirtual 59, 3) := by decide +kernel
theorem dX6_comes_18 : decode cX6_comes 18 = .ok (.aload_n 0, 1) := by decide +kernel
theorem dX6_comes_19 : decode cX6_comes 19 = .ok (.iload_n 1, 1) := by decide +kernel
theorem dX6_comes_20 : decode cX6_comes 20 = .ok (.iload_n 2, 1) := by decide +kernel
theorem dX6_comes_21 : decode cX6_comes 21 = .ok (.iconst 1, 1) := by decide +kernel
theorem dX6_comes_22 : decode cX6_comes 22 = .ok (.invokevirtual 56, 3) := by decide +kernel
theorem dX6_comes_25 : decode cX6_comes 25 = .ok (.istore 4, 2) := by decide +kernel
theorem dX6_comes_27 : decode cX6_comes 27 = .ok (.iload 4, 2) := by decide +kernel
theorem dX6_comes_29 : decode cX6_comes 29 = .ok (.iconst 3, 1) := by decide +kernel
theorem dX6_comes_30 : decode cX6_comes 30 = .ok (.if_icmp .ne 4, 3) := by decide +kernel
theorem dX6_comes_33 : decode cX6_comes 33 = .ok (.return_, 1) := by decide +kernel
theorem dX6_comes_34 : decode cX6_comes 34 = .ok (.aload_n 0, 1) := by decide +kernel
theorem dX6_comes_35 : decode cX6_comes 35 = .ok (.getfield 85, 3) := by decide +kernel
theorem dX6_comes_38 : decode cX6_comes 38 = .ok (.bipush 7, 2) := by decide +kernel
theorem dX6_comes_40 : decode cX6_comes 40 = .ok (.if_icmp .ne 36, 3) := by decide +kernel
theorem dX6_comes_43 : decode cX6_comes 43 = .ok (.aload_n 0, 1) := by decide +kernel
theorem dX6_comes_44 : decode cX6_comes 44 = .ok (.iload_n 1, 1) := by decide +kernel
theorem dX6_comes_45 : decode cX6_comes 45 = .ok (.iload_n 2, 1) := by decide +kernel
theorem dX6_comes_46 : decode cX6_comes 46 = .ok (.iconst 1, 1) := by decide +kernel
theorem dX6_comes_47 : decode cX6_comes 47 = .ok (.iconst 4, 1) := by decide +kernel
theorem dX6_comes_48 : decode cX6_comes 48 = .ok (.invokevirtual 59, 3) := by decide +kernel
theorem dX6_comes_51 : decode cX6_comes 51 = .ok (.aload_n 0, 1) := by decide +kernel
theorem dX6_comes_52 : decode cX6_comes 52 = .ok (.iload_n 1, 1) := by decide +kernel
theorem dX6_comes_53 : decode cX6_comes 53 = .ok (.iload_n 2, 1) := by decide +kernel
theorem dX6_comes_54 : decode cX6_comes 54 = .ok (.iconst 4, 1) := by decide +kernel
theorem dX6_comes_55 : decode cX6_comes 55 = .ok (.aload_n 0, 1) := by decide +kernel
theorem dX6_comes_56 : decode cX6_comes 56 = .ok (.getfield 88, 3) := by decide +kernel
theorem dX6_comes_59 : decode cX6_comes 59 = .ok (.invokevirtual 59, 3) := by decide +kernel
theorem dX6_comes_62 : decode cX6_comes 62 = .ok (.aload_n 0, 1) := by decide +kernel
theorem dX6_comes_63 : decode cX6_comes 63 = .ok (.iload_n 1, 1) := by decide +kernel
theorem dX6_comes_64 : decode cX6_comes 64 = .ok (.iload_n 2, 1) := by decide +kernel
theorem dX6_comes_65 : decode cX6_comes 65 = .ok (.iconst 0, 1) := by decide +kernel
theorem dX6_comes_66 : decode cX6_comes 66 = .ok (.iload_n 3, 1) := by decide +kernel
theorem dX6_comes_67 : decode cX6_comes 67 = .ok (.invokevirtual 59, 3) := by decide +kernel
theorem dX6_comes_70 : decode cX6_comes 70 = .ok (.aload_n 0, 1) := by decide +kernel
theorem dX6_comes_71 : decode cX6_comes 71 = .ok (.iload_n 1, 1) := by decide +kernel
theorem dX6_comes_72 : decode cX6_comes 72 = .ok (.invokevirtual 100, 3) := by decide +kernel
theorem dX6_comes_75 : decode cX6_comes 75 = .ok (.return_, 1) := by decide +kernel
theorem dX6_comes_76 : decode cX6_comes 76 = .ok (.iload 4, 2) := by decide +kernel
theorem dX6_comes_78 : decode cX6_comes 78 = .ok (.iconst 1, 1) := by decide +kernel
theorem dX6_comes_79 : decode cX6_comes 79 = .ok (.if_icmp .ne 7, 3) := by decide +kernel
theorem dX6_comes_82 : decode cX6_comes 82 = .ok (.iconst 1, 1) := by decide +kernel
theorem dX6_comes_83 : decode cX6_comes 83 = .ok (.goto 4, 3) := by decide +kernel
theorem dX6_comes_86 : decode cX6_comes 86 = .ok (.iconst 0, 1) := by decide +kernel
theorem dX6_comes_87 : decode cX6_comes 87 = .ok (.istore 5, 2) := by decide +kernel
theorem dX6_comes_89 : decode cX6_comes 89 = .ok (.aload_n 0, 1) := by decide +kernel
theorem dX6_comes_90 : decode cX6_comes 90 = .ok (.getfield 85, 3) := by decide +kernel
theorem dX6_comes_93 : decode cX6_comes 93 = .ok (.iconst 1, 1) := by decide +kernel
theorem dX6_comes_94 : decode cX6_comes 94 = .ok (.if_icmp .ne 14, 3) := by decide +kernel
theorem dX6_comes_97 : decode cX6_comes 97 = .ok (.aload_n 0, 1) := by decide +kernel
theorem dX6_comes_98 : decode cX6_comes 98 = .ok (.iload_n 1, 1) := by decide +kernel
theorem dX6_comes_99 : decode cX6_comes 99 = .ok (.iload_n 2, 1) := by decide +kernel
theorem dX6_comes_100 : decode cX6_comes 100 = .ok (.iload 5, 2) := by decide +kernel
theorem dX6_comes_102 : decode cX6_comes 102 = .ok (.invokevirtual 111, 3) := by decide +kernel
theorem dX6_comes_105 : decode cX6_comes 105 = .ok (.goto 69, 3) := by decide +kernel
theorem dX6_comes_108 : decode cX6_comes 108 = .ok (.aload_n 0, 1) := by decide +kernel
theorem dX6_comes_109 : decode cX6_comes 109 = .ok (.getfield 85, 3) := by decide +kernel
theorem dX6_comes_112 : decode cX6_comes 112 = .ok (.iconst 2, 1) := by decide +kernel
theorem dX6_comes_113 : decode cX6_comes 113 = .ok (.if_icmp .ne 14, 3) := by decide +kernel
theorem dX6_comes_116 : decode cX6_comes 116 = .ok (.aload_n 0, 1) := by decide +kernel
theorem dX6_comes_117 : decode cX6_comes 117 = .ok (.iload_n 1, 1) := by decide +kernel
theorem dX6_comes_118 : decode cX6_comes 118 = .ok (.iload_n 2, 1) := by decide +kernel
theorem dX6_comes_119 : decode cX6_comes 119 = .ok (.iload 5, 2) := by decide +kernel
theorem dX6_comes_121 : decode cX6_comes 121 = .ok (.invokevirtual 115, 3) := by decide +kernel
theorem dX6_comes_124 : decode cX6_comes 124 = .ok (.goto 50, 3) := by decide +kernel
theorem dX6_comes_127 : decode cX6_comes 127 = .ok (.aload_n 0, 1) := by decide +kernel
theorem dX6_comes_128 : decode cX6_comes 128 = .ok (.getfield 85, 3) := by decide +kernel
theorem dX6_comes_131 : decode cX6_comes 131 = .ok (.iconst 3, 1) := by decide +kernel
theorem dX6_comes_132 : decode cX6_comes 132 = .ok (.if_icmp .ne 14, 3) := by decide +kernel
theorem dX6_comes_135 : decode cX6_comes 135 = .ok (.aload_n 0, 1) := by decide +kernel
theorem dX6_comes_136 : decode cX6_comes 136 = .ok (.iload_n 1, 1) := by decide +kernel
theorem dX6_comes_137 : decode cX6_comes 137 = .ok (.iload_n 2, 1) := by decide +kernel
theorem dX6_comes_138 : decode cX6_comes 138 = .ok (.iload 5, 2) := by decide +kernel
theorem dX6_comes_140 : decode cX6_comes 140 = .ok (.invokevirtual 118, 3) := by decide +kernel
theorem dX6_comes_143 : decode cX6_comes 143 = .ok (.goto 31, 3) := by decide +kernel
theorem dX6_comes_146 : decode cX6_comes 146 = .ok (.aload_n 0, 1) := by decide +kernel
theorem dX6_comes_147 : decode cX6_comes 147 = .ok (.getfield 85, 3) := by decide +kernel
theorem dX6_comes_150 : decode cX6_comes 150 = .ok (.bipush 6, 2) := by decide +kernel
theorem dX6_comes_152 : decode cX6_comes 152 = .ok (.if_icmp .ne 14, 3) := by decide +kernel
theorem dX6_comes_155 : decode cX6_comes 155 = .ok (.aload_n 0, 1) := by decide +kernel
theorem dX6_comes_156 : decode cX6_comes 156 = .ok (.iload_n 1, 1) := by decide +kernel
theorem dX6_comes_157 : decode cX6_comes 157 = .ok (.iload_n 2, 1) := by decide +kernel
theorem dX6_comes_158 : decode cX6_comes 158 = .ok (.iload 5, 2) := by decide +kernel
theorem dX6_comes_160 : decode cX6_comes 160 = .ok (.invokevirtual 121, 3) := by decide +kernel
theorem dX6_comes_163 : decode cX6_comes 163 = .ok (.goto 11, 3) := by decide +kernel
theorem dX6_comes_166 : decode cX6_comes 166 = .ok (.aload_n 0, 1) := by decide +kernel
theorem dX6_comes_167 : decode cX6_comes 167 = .ok (.iload_n 1, 1) := by decide +kernel
theorem dX6_comes_168 : decode cX6_comes 168 = .ok (.iload_n 2, 1) := by decide +kernel
theorem dX6_comes_169 : decode cX6_comes 169 = .ok (.iload 5, 2) := by decide +kernel
theorem dX6_comes_171 : decode cX6_comes 171 = .ok (.invokevirtual 124, 3) := by decide +kernel
theorem dX6_comes_174 : decode cX6_comes 174 = .ok (.return_, 1) := by decide +kernel
theorem dX6_delivers_0 : decode cX6_delivers 0 = .ok (.aload_n 0, 1) := by decide +kernel
theorem dX6_delivers_1 : decode cX6_delivers 1 = .ok (.iload_n 1, 1) := by decide +kernel
theorem dX6_delivers_2 : decode cX6_delivers 2 = .ok (.iload_n 2, 1) := by decide +kernel
theorem dX6_delivers_3 : decode cX6_delivers 3 = .ok (.iconst 0, 1) := by decide +kernel
theorem dX6_delivers_4 : decode cX6_delivers 4 = .ok (.invokevirtual 127, 3) := by decide +kernel
theorem dX6_delivers_7 : decode cX6_delivers 7 = .ok (.istore_n 3, 1) := by decide +kernel
theorem dX6_delivers_8 : decode cX6_delivers 8 = .ok (.aload_n 0, 1) := by decide +kernel
theorem dX6_delivers_9 : decode cX6_delivers 9 = .ok (.aload_n 0, 1) := by decide +kernel
theorem dX6_delivers_10 : decode cX6_delivers 10 = .ok (.getfield 16, 3) := by decide +kernel
theorem dX6_delivers_13 : decode cX6_delivers 13 = .ok (.iload_n 1, 1) := by decide +kernel
theorem dX6_delivers_14 : decode cX6_delivers 14 = .ok (.iload_n 3, 1) := by decide +kernel
theorem dX6_delivers_15 : decode cX6_delivers 15 = .ok (.iconst 1, 1) := by decide +kernel
theorem dX6_delivers_16 : decode cX6_delivers 16 = .ok (.invokestatic 53, 3) := by decide +kernel
theorem dX6_delivers_19 : decode cX6_delivers 19 = .ok (.iaload, 1) := by decide +kernel
theorem dX6_delivers_20 : decode cX6_delivers 20 = .ok (.putfield 85, 3) := by decide +kernel
theorem dX6_delivers_23 : decode cX6_delivers 23 = .ok (.aload_n 0, 1) := by decide +kernel
theorem dX6_delivers_24 : decode cX6_delivers 24 = .ok (.aload_n 0, 1) := by decide +kernel
theorem dX6_delivers_25 : decode cX6_delivers 25 = .ok (.getfield 16, 3) := by decide +kernel
theorem dX6_delivers_28 : decode cX6_delivers 28 = .ok (.iload_n 1, 1) := by decide +kernel
theorem dX6_delivers_29 : decode cX6_delivers 29 = .ok (.iload_n 3, 1) := by decide +kernel
theorem dX6_delivers_30 : decode cX6_delivers 30 = .ok (.iconst 2, 1) := by decide +kernel
theorem dX6_delivers_31 : decode cX6_delivers 31 = .ok (.invokestatic 53, 3) := by decide +kernel
theorem dX6_delivers_34 : decode cX6_delivers 34 = .ok (.iaload, 1) := by decide +kernel
theorem dX6_delivers_35 : decode cX6_delivers 35 = .ok (.putfield 88, 3) := by decide +kernel
theorem dX6_delivers_38 : decode cX6_delivers 38 = .ok (.aload_n 0, 1) := by decide +kernel
theorem dX6_delivers_39 : decode cX6_delivers 39 = .ok (.aload_n 0, 1) := by decide +kernel
theorem dX6_delivers_40 : decode cX6_delivers 40 = .ok (.getfield 16, 3) := by decide +kernel
theorem dX6_delivers_43 : decode cX6_delivers 43 = .ok (.iload_n 1, 1) := by decide +kernel
theorem dX6_delivers_44 : decode cX6_delivers 44 = .ok (.iload_n 3, 1) := by decide +kernel
theorem dX6_delivers_45 : decode cX6_delivers 45 = .ok (.iconst 3, 1) := by decide +kernel
theorem dX6_delivers_46 : decode cX6_delivers 46 = .ok (.invokestatic 53, 3) := by decide +kernel
theorem dX6_delivers_49 : decode cX6_delivers 49 = .ok (.iaload, 1) := by decide +kernel
theorem dX6_delivers_50 : decode cX6_delivers 50 = .ok (.putfield 91, 3) := by decide +kernel
theorem dX6_delivers_53 : decode cX6_delivers 53 = .ok (.aload_n 0, 1) := by decide +kernel
theorem dX6_delivers_54 : decode cX6_delivers 54 = .ok (.aload_n 0, 1) := by decide +kernel
theorem dX6_delivers_55 : decode cX6_delivers 55 = .ok (.getfield 16, 3) := by decide +kernel
theorem dX6_delivers_58 : decode cX6_delivers 58 = .ok (.iload_n 1, 1) := by decide +kernel
theorem dX6_delivers_59 : decode cX6_delivers 59 = .ok (.iload_n 3, 1) := by decide +kernel
theorem dX6_delivers_60 : decode cX6_delivers 60 = .ok (.iconst 4, 1) := by decide +kernel
theorem dX6_delivers_61 : decode cX6_delivers 61 = .ok (.invokestatic 53, 3) := by decide +kernel
theorem dX6_delivers_64 : decode cX6_delivers 64 = .ok (.iaload, 1) := by decide +kernel
theorem dX6_delivers_65 : decode cX6_delivers 65 = .ok (.putfield 94, 3) := by decide +kernel
theorem dX6_delivers_68 : decode cX6_delivers 68 = .ok (.aload_n 0, 1) := by decide +kernel
theorem dX6_delivers_69 : decode cX6_delivers 69 = .ok (.aload_n 0, 1) := by decide +kernel
theorem dX6_delivers_70 : decode cX6_delivers 70 = .ok (.getfield 16, 3) := by decide +kernel
theorem dX6_delivers_73 : decode cX6_delivers 73 = .ok (.iload_n 1, 1) := by decide +kernel
theorem dX6_delivers_74 : decode cX6_delivers 74 = .ok (.iload_n 3, 1) := by decide +kernel
theorem dX6_delivers_75 : decode cX6_delivers 75 = .ok (.iconst 5, 1) := by decide +kernel
theorem dX6_delivers_76 : decode cX6_delivers 76 = .ok (.invokestatic 53, 3) := by decide +kernel
theorem dX6_delivers_79 : decode cX6_delivers 79 = .ok (.iaload, 1) := by decide +kernel
theorem dX6_delivers_80 : decode cX6_delivers 80 = .ok (.putfield 97, 3) := by decide +kernel
theorem dX6_delivers_83 : decode cX6_delivers 83 = .ok (.aload_n 0, 1) := by decide +kernel
theorem dX6_delivers_84 : decode cX6_delivers 84 = .ok (.getfield 16, 3) := by decide +kernel
theorem dX6_delivers_87 : decode cX6_delivers 87 = .ok (.sipush 168, 3) := by decide +kernel
theorem dX6_delivers_90 : decode cX6_delivers 90 = .ok (.iload_n 1, 1) := by decide +kernel
theorem dX6_delivers_91 : decode cX6_delivers 91 = .ok (.imul, 1) := by decide +kernel
theorem dX6_delivers_92 : decode cX6_delivers 92 = .ok (.iconst 2, 1) := by decide +kernel
theorem dX6_delivers_93 : decode cX6_delivers 93 = .ok (.iadd, 1) := by decide +kernel
theorem dX6_delivers_94 : decode cX6_delivers 94 = .ok (.dup2, 1) := by decide +kernel
theorem dX6_delivers_95 : decode cX6_delivers 95 = .ok (.iaload, 1) := by decide +kernel
theorem dX6_delivers_96 : decode cX6_delivers 96 = .ok (.iconst 1, 1) := by decide +kernel
theorem dX6_delivers_97 : decode cX6_delivers 97 = .ok (.isub, 1) := by decide +kernel
theorem dX6_delivers_98 : decode cX6_delivers 98 = .ok (.iastore, 1) := by decide +kernel
theorem dX6_delivers_99 : decode cX6_delivers 99 = .ok (.bipush 6, 2) := by decide +kernel
theorem dX6_delivers_101 : decode cX6_delivers 101 = .ok (.iload_n 3, 1) := by decide +kernel
theorem dX6_delivers_102 : decode cX6_delivers 102 = .ok (.imul, 1) := by decide +kernel
theorem dX6_delivers_103 : decode cX6_delivers 103 = .ok (.istore 4, 2) := by decide +kernel
theorem dX6_delivers_105 : decode cX6_delivers 105 = .ok (.iload 4, 2) := by decide +kernel
theorem dX6_delivers_107 : decode cX6_delivers 107 = .ok (.bipush 6, 2) := by decide +kernel
theorem dX6_delivers_109 : decode cX6_delivers 109 = .ok (.aload_n 0, 1) := by decide +kernel
theorem dX6_delivers_110 : decode cX6_delivers 110 = .ok (.getfield 16, 3) := by decide +kernel
theorem dX6_delivers_113 : decode cX6_delivers 113 = .ok (.sipush 168, 3) := by decide +kernel
theorem dX6_delivers_116 : decode cX6_delivers 116 = .ok (.iload_n 1, 1) := by decide +kernel
theorem dX6_delivers_117 : decode cX6_delivers 117 = .ok (.imul, 1) := by decide +kernel
theorem dX6_delivers_118 : decode cX6_delivers 118 = .ok (.iconst 2, 1) := by decide +kernel
theorem dX6_delivers_119 : decode cX6_delivers 119 = .ok (.iadd, 1) := by decide +kernel
theorem dX6_delivers_120 : decode cX6_delivers 120 = .ok (.iaload, 1) := by decide +kernel
theorem dX6_delivers_121 : decode cX6_delivers 121 = .ok (.imul, 1) := by decide +kernel
theorem dX6_delivers_122 : decode cX6_delivers 122 = .ok (.if_icmp .ge 44, 3) := by decide +kernel
theorem dX6_delivers_125 : decode cX6_delivers 125 = .ok (.aload_n 0, 1) := by decide +kernel
theorem dX6_delivers_126 : decode cX6_delivers 126 = .ok (.getfield 16, 3) := by decide +kernel
theorem dX6_delivers_129 : decode cX6_delivers 129 = .ok (.sipush 168, 3) := by decide +kernel
theorem dX6_delivers_132 : decode cX6_delivers 132 = .ok (.iload_n 1, 1) := by decide +kernel
theorem dX6_delivers_133 : decode cX6_delivers 133 = .ok (.imul, 1) := by decide +kernel
theorem dX6_delivers_134 : decode cX6_delivers 134 = .ok (.bipush 72, 2) := by decide +kernel
theorem dX6_delivers_136 : decode cX6_delivers 136 = .ok (.iadd, 1) := by decide +kernel
theorem dX6_delivers_137 : decode cX6_delivers 137 = .ok (.iload 4, 2) := by decide +kernel
theorem dX6_delivers_139 : decode cX6_delivers 139 = .ok (.iadd, 1) := by decide +kernel
theorem dX6_delivers_140 : decode cX6_delivers 140 = .ok (.aload_n 0, 1) := by decide +kernel
theorem dX6_delivers_141 : decode cX6_delivers 141 = .ok (.getfield 16, 3) := by decide +kernel
theorem dX6_delivers_144 : decode cX6_delivers 144 = .ok (.sipush 168, 3) := by decide +kernel
theorem dX6_delivers_147 : decode cX6_delivers 147 = .ok (.iload_n 1, 1) := by decide +kernel
theorem dX6_delivers_148 : decode cX6_delivers 148 = .ok (.imul, 1) := by decide +kernel
theorem dX6_delivers_149 : decode cX6_delivers 149 = .ok (.bipush 72, 2) := by decide +kernel
theorem dX6_delivers_151 : decode cX6_delivers 151 = .ok (.iadd, 1) := by decide +kernel
theorem dX6_delivers_152 : decode cX6_delivers 152 = .ok (.iload 4, 2) := by decide +kernel
theorem dX6_delivers_154 : decode cX6_delivers 154 = .ok (.iadd, 1) := by decide +kernel
theorem dX6_delivers_155 : decode cX6_delivers 155 = .ok (.bipush 6, 2) := by decide +kernel
theorem dX6_delivers_157 : decode cX6_delivers 157 = .ok (.iadd, 1) := by decide +kernel
theorem dX6_delivers_158 : decode cX6_delivers 158 = .ok (.iaload, 1) := by decide +kernel
theorem dX6_delivers_159 : decode cX6_delivers 159 = .ok (.iastore, 1) := by decide +kernel
theorem dX6_delivers_160 : decode cX6_delivers 160 = .ok (.iinc 4 1, 3) := by decide +kernel
theorem dX6_delivers_163 : decode cX6_delivers 163 = .ok (.goto (-58), 3) := by decide +kernel
theorem dX6_delivers_166 : decode cX6_delivers 166 = .ok (.iload_n 2, 1) := by decide +kernel
theorem dX6_delivers_167 : decode cX6_delivers 167 = .ok (.iconst 2, 1) := by decide +kernel
theorem dX6_delivers_168 : decode cX6_delivers 168 = .ok (.irem, 1) := by decide +kernel
theorem dX6_delivers_169 : decode cX6_delivers 169 = .ok (.istore 4, 2) := by decide +kernel
theorem dX6_delivers_171 : decode cX6_delivers 171 = .ok (.iload 4, 2) := by decide +kernel
theorem dX6_delivers_173 : decode cX6_delivers 173 = .ok (.ifCond .ne 16, 3) := by decide +kernel
theorem dX6_delivers_176 : decode cX6_delivers 176 = .ok (.iload_n 2, 1) := by decide +kernel
theorem dX6_delivers_177 : decode cX6_delivers 177 = .ok (.iconst 2, 1) := by decide +kernel
theorem dX6_delivers_178 : decode cX6_delivers 178 = .ok (.idiv, 1) := by decide +kernel
theorem dX6_delivers_179 : decode cX6_delivers 179 = .ok (.iconst 1, 1) := by decide +kernel
theorem dX6_delivers_180 : decode cX6_delivers 180 = .ok (.iadd, 1) := by decide +kernel
theorem dX6_delivers_181 : decode cX6_delivers 181 = .ok (.aload_n 0, 1) := by decide +kernel
theorem dX6_delivers_182 : decode cX6_delivers 182 = .ok (.getfield 41, 3) := by decide +kernel
theorem dX6_delivers_185 : decode cX6_delivers 185 = .ok (.irem, 1) := by decide +kernel
theorem dX6_delivers_186 : decode cX6_delivers 186 = .ok (.goto 18, 3) := by decide +kernel
theorem dX6_delivers_189 : decode cX6_delivers 189 = .ok (.iload_n 2, 1) := by decide +kernel
theorem dX6_delivers_190 : decode cX6_delivers 190 = .ok (.iconst 2, 1) := by decide +kernel
theorem dX6_delivers_191 : decode cX6_delivers 191 = .ok (.idiv, 1) := by decide +kernel
theorem dX6_delivers_192 : decode cX6_delivers 192 = .ok (.aload_n 0, 1) := by decide +kernel
theorem dX6_delivers_193 : decode cX6_delivers 193 = .ok (.getfield 41, 3) := by decide +kernel
theorem dX6_delivers_196 : decode cX6_delivers 196 = .ok (.iadd, 1) := by decide +kernel
theorem dX6_delivers_197 : decode cX6_delivers 197 = .ok (.iconst 1, 1) := by decide +kernel
theorem dX6_delivers_198 : decode cX6_delivers 198 = .ok (.isub, 1) := by decide +kernel
theorem dX6_delivers_199 : decode cX6_delivers 199 = .ok (.aload_n 0, 1) := by decide +kernel
theorem dX6_delivers_200 : decode cX6_delivers 200 = .ok (.getfield 41, 3) := by decide +kernel
theorem dX6_delivers_203 : decode cX6_delivers 203 = .ok (.irem, 1) := by decide +kernel
theorem dX6_delivers_204 : decode cX6_delivers 204 = .ok (.istore 5, 2) := by decide +kernel
theorem dX6_delivers_206 : decode cX6_delivers 206 = .ok (.aload_n 0, 1) := by decide +kernel
theorem dX6_delivers_207 : decode cX6_delivers 207 = .ok (.iconst 2, 1) := by decide +kernel
theorem dX6_delivers_208 : decode cX6_delivers 208 = .ok (.iload 5, 2) := by decide +kernel
theorem dX6_delivers_210 : decode cX6_delivers 210 = .ok (.imul, 1) := by decide +kernel
theorem dX6_delivers_211 : decode cX6_delivers 211 = .ok (.iload 4, 2) := by decide +kernel
theorem dX6_delivers_213 : decode cX6_delivers 213 = .ok (.iadd, 1) := by decide +kernel
theorem dX6_delivers_214 : decode cX6_delivers 214 = .ok (.putfield 82, 3) := by decide +kernel
theorem dX6_delivers_217 : decode cX6_delivers 217 = .ok (.aload_n 0, 1) := by decide +kernel
theorem dX6_delivers_218 : decode cX6_delivers 218 = .ok (.iconst 2, 1) := by decide +kernel
theorem dX6_delivers_219 : decode cX6_delivers 219 = .ok (.iload 5, 2) := by decide +kernel
theorem dX6_delivers_221 : decode cX6_delivers 221 = .ok (.imul, 1) := by decide +kernel
theorem dX6_delivers_222 : decode cX6_delivers 222 = .ok (.iconst 1, 1) := by decide +kernel
theorem dX6_delivers_223 : decode cX6_delivers 223 = .ok (.iadd, 1) := by decide +kernel
theorem dX6_delivers_224 : decode cX6_delivers 224 = .ok (.iload 4, 2) := by decide +kernel
theorem dX6_delivers_226 : decode cX6_delivers 226 = .ok (.isub, 1) := by decide +kernel
theorem dX6_delivers_227 : decode cX6_delivers 227 = .ok (.putfield 108, 3) := by decide +kernel
theorem dX6_delivers_230 : decode cX6_delivers 230 = .ok (.aload_n 0, 1) := by decide +kernel
theorem dX6_delivers_231 : decode cX6_delivers 231 = .ok (.getfield 85, 3) := by decide +kernel
theorem dX6_delivers_234 : decode cX6_delivers 234 = .ok (.istore 6, 2) := by decide +kernel
theorem dX6_delivers_236 : decode cX6_delivers 236 = .ok (.aload_n 0, 1) := by decide +kernel
theorem dX6_delivers_237 : decode cX6_delivers 237 = .ok (.iload_n 1, 1) := by decide +kernel
theorem dX6_delivers_238 : decode cX6_delivers 238 = .ok (.iload 5, 2) := by decide +kernel
theorem dX6_delivers_240 : decode cX6_delivers 240 = .ok (.iload 4, 2) := by decide +kernel
theorem dX6_delivers_242 : decode cX6_delivers 242 = .ok (.invokevirtual 130, 3) := by decide +kernel
theorem dX6_delivers_245 : decode cX6_delivers 245 = .ok (.iload 6, 2) := by decide +kernel
theorem dX6_delivers_247 : decode cX6_delivers 247 = .ok (.ireturn, 1) := by decide +kernel
theorem dX6_manyLinks_0 : decode cX6_manyLinks 0 = .ok (.iconst 0, 1) := by decide +kernel
theorem dX6_manyLinks_1 : decode cX6_manyLinks 1 = .ok (.istore_n 2, 1) := by decide +kernel
theorem dX6_manyLinks_2 : decode cX6_manyLinks 2 = .ok (.iconst 0, 1) := by decide +kernel
theorem dX6_manyLinks_3 : decode cX6_manyLinks 3 = .ok (.istore_n 3, 1) := by decide +kernel
theorem dX6_manyLinks_4 : decode cX6_manyLinks 4 = .ok (.iload_n 3, 1) := by decide +kernel
theorem dX6_manyLinks_5 : decode cX6_manyLinks 5 = .ok (.iconst 2, 1) := by decide +kernel
theorem dX6_manyLinks_6 : decode cX6_manyLinks 6 = .ok (.aload_n 0, 1) := by decide +kernel
theorem dX6_manyLinks_7 : decode cX6_manyLinks 7 = .ok (.getfield 41, 3) := by decide +kernel
theorem dX6_manyLinks_10 : decode cX6_manyLinks 10 = .ok (.imul, 1) := by decide +kernel
theorem dX6_manyLinks_11 : decode cX6_manyLinks 11 = .ok (.if_icmp .ge 26, 3) := by decide +kernel
theorem dX6_manyLinks_14 : decode cX6_manyLinks 14 = .ok (.iload_n 2, 1) := by decide +kernel
theorem dX6_manyLinks_15 : decode cX6_manyLinks 15 = .ok (.aload_n 0, 1) := by decide +kernel
theorem dX6_manyLinks_16 : decode cX6_manyLinks 16 = .ok (.iload_n 1, 1) := by decide +kernel
theorem dX6_manyLinks_17 : decode cX6_manyLinks 17 = .ok (.iload_n 3, 1) := by decide +kernel
theorem dX6_manyLinks_18 : decode cX6_manyLinks 18 = .ok (.invokevirtual 133, 3) := by decide +kernel
theorem dX6_manyLinks_21 : decode cX6_manyLinks 21 = .ok (.ifCond .le 7, 3) := by decide +kernel
theorem dX6_manyLinks_24 : decode cX6_manyLinks 24 = .ok (.iconst 1, 1) := by decide +kernel
theorem dX6_manyLinks_25 : decode cX6_manyLinks 25 = .ok (.goto 4, 3) := by decide +kernel
theorem dX6_manyLinks_28 : decode cX6_manyLinks 28 = .ok (.iconst 0, 1) := by decide +kernel
theorem dX6_manyLinks_29 : decode cX6_manyLinks 29 = .ok (.iadd, 1) := by decide +kernel
theorem dX6_manyLinks_30 : decode cX6_manyLinks 30 = .ok (.istore_n 2, 1) := by decide +kernel
theorem dX6_manyLinks_31 : decode cX6_manyLinks 31 = .ok (.iinc 3 1, 3) := by decide +kernel
theorem dX6_manyLinks_34 : decode cX6_manyLinks 34 = .ok (.goto (-30), 3) := by decide +kernel
theorem dX6_manyLinks_37 : decode cX6_manyLinks 37 = .ok (.iload_n 2, 1) := by decide +kernel
theorem dX6_manyLinks_38 : decode cX6_manyLinks 38 = .ok (.ireturn, 1) := by decide +kernel
theorem dX6_linkBy_0 : decode cX6_linkBy 0 = .ok (.iload_n 2, 1) := by decide +kernel
theorem dX6_linkBy_1 : decode cX6_linkBy 1 = .ok (.istore_n 3, 1) := by decide +kernel
theorem dX6_linkBy_2 : decode cX6_linkBy 2 = .ok (.iconst (-1), 1) := by decide +kernel
theorem dX6_linkBy_3 : decode cX6_linkBy 3 = .ok (.istore 4, 2) := by decide +kernel
theorem dX6_linkBy_5 : decode cX6_linkBy 5 = .ok (.iconst 0, 1) := by decide +kernel
theorem dX6_linkBy_6 : decode cX6_linkBy 6 = .ok (.istore 5, 2) := by decide +kernel
theorem dX6_linkBy_8 : decode cX6_linkBy 8 = .ok (.iload 5, 2) := by decide +kernel
theorem dX6_linkBy_10 : decode cX6_linkBy 10 = .ok (.iconst 2, 1) := by decide +kernel
theorem dX6_linkBy_11 : decode cX6_linkBy 11 = .ok (.aload_n 0, 1) := by decide +kernel
theorem dX6_linkBy_12 : decode cX6_linkBy 12 = .ok (.getfield 41, 3) := by decide +kernel
theorem dX6_linkBy_15 : decode cX6_linkBy 15 = .ok (.imul, 1) := by decide +kernel
theorem dX6_linkBy_16 : decode cX6_linkBy 16 = .ok (.if_icmp .ge 57, 3) := by decide +kernel
theorem dX6_linkBy_19 : decode cX6_linkBy 19 = .ok (.aload_n 0, 1) := by decide +kernel
theorem dX6_linkBy_20 : decode cX6_linkBy 20 = .ok (.iload_n 1, 1) := by decide +kernel
theorem dX6_linkBy_21 : decode cX6_linkBy 21 = .ok (.iload 5, 2) := by decide +kernel
theorem dX6_linkBy_23 : decode cX6_linkBy 23 = .ok (.invokevirtual 133, 3) := by decide +kernel
theorem dX6_linkBy_26 : decode cX6_linkBy 26 = .ok (.ifCond .le 7, 3) := by decide +kernel
theorem dX6_linkBy_29 : decode cX6_linkBy 29 = .ok (.iconst 1, 1) := by decide +kernel
theorem dX6_linkBy_30 : decode cX6_linkBy 30 = .ok (.goto 4, 3) := by decide +kernel
theorem dX6_linkBy_33 : decode cX6_linkBy 33 = .ok (.iconst 0, 1) := by decide +kernel
theorem dX6_linkBy_34 : decode cX6_linkBy 34 = .ok (.istore 6, 2) := by decide +kernel
theorem dX6_linkBy_36 : decode cX6_linkBy 36 = .ok (.iload 6, 2) := by decide +kernel
theorem dX6_linkBy_38 : decode cX6_linkBy 38 = .ok (.ifCond .eq 12, 3) := by decide +kernel
theorem dX6_linkBy_41 : decode cX6_linkBy 41 = .ok (.iload_n 3, 1) := by decide +kernel
theorem dX6_linkBy_42 : decode cX6_linkBy 42 = .ok (.ifCond .ne 8, 3) := by decide +kernel
theorem dX6_linkBy_45 : decode cX6_linkBy 45 = .ok (.iload 5, 2) := by decide +kernel
theorem dX6_linkBy_47 : decode cX6_linkBy 47 = .ok (.goto 5, 3) := by decide +kernel
theorem dX6_linkBy_50 : decode cX6_linkBy 50 = .ok (.iload 4, 2) := by decide +kernel
theorem dX6_linkBy_52 : decode cX6_linkBy 52 = .ok (.istore 4, 2) := by decide +kernel
theorem dX6_linkBy_54 : decode cX6_linkBy 54 = .ok (.iload_n 3, 1) := by decide +kernel
theorem dX6_linkBy_55 : decode cX6_linkBy 55 = .ok (.iload 6, 2) := by decide +kernel
theorem dX6_linkBy_57 : decode cX6_linkBy 57 = .ok (.ifCond .eq 7, 3) := by decide +kernel
theorem dX6_linkBy_60 : decode cX6_linkBy 60 = .ok (.iconst 1, 1) := by decide +kernel
theorem dX6_linkBy_61 : decode cX6_linkBy 61 = .ok (.goto 4, 3) := by decide +kernel
theorem dX6_linkBy_64 : decode cX6_linkBy 64 = .ok (.iconst 0, 1) := by decide +kernel
theorem dX6_linkBy_65 : decode cX6_linkBy 65 = .ok (.isub, 1) := by decide +kernel
theorem dX6_linkBy_66 : decode cX6_linkBy 66 = .ok (.istore_n 3, 1) := by decide +kernel
theorem dX6_linkBy_67 : decode cX6_linkBy 67 = .ok (.iinc 5 1, 3) := by decide +kernel
theorem dX6_linkBy_70 : decode cX6_linkBy 70 = .ok (.goto (-62), 3) := by decide +kernel
theorem dX6_linkBy_73 : decode cX6_linkBy 73 = .ok (.iload 4, 2) := by decide +kernel
theorem dX6_linkBy_75 : decode cX6_linkBy 75 = .ok (.ireturn, 1) := by decide +kernel
theorem dX6_nextLink_0 : decode cX6_nextLink 0 = .ok (.aload_n 0, 1) := by decide +kernel
theorem dX6_nextLink_1 : decode cX6_nextLink 1 = .ok (.iload_n 1, 1) := by decide +kernel
theorem dX6_nextLink_2 : decode cX6_nextLink 2 = .ok (.invokevirtual 136, 3) := by decide +kernel
theorem dX6_nextLink_5 : decode cX6_nextLink 5 = .ok (.istore 4, 2) := by decide +kernel
theorem dX6_nextLink_7 : decode cX6_nextLink 7 = .ok (.iload_n 2, 1) := by decide +kernel
theorem dX6_nextLink_8 : decode cX6_nextLink 8 = .ok (.ifCond .ne 10, 3) := by decide +kernel
theorem dX6_nextLink_11 : decode cX6_nextLink 11 = .ok (.aload_n 0, 1) := by decide +kernel
theorem dX6_nextLink_12 : decode cX6_nextLink 12 = .ok (.iload_n 1, 1) := by decide +kernel
theorem dX6_nextLink_13 : decode cX6_nextLink 13 = .ok (.iconst 0, 1) := by decide +kernel
theorem dX6_nextLink_14 : decode cX6_nextLink 14 = .ok (.invokevirtual 140, 3) := by decide +kernel
theorem dX6_nextLink_17 : decode cX6_nextLink 17 = .ok (.ireturn, 1) := by decide +kernel
theorem dX6_nextLink_18 : decode cX6_nextLink 18 = .ok (.iload_n 2, 1) := by decide +kernel
theorem dX6_nextLink_19 : decode cX6_nextLink 19 = .ok (.iconst 1, 1) := by decide +kernel
theorem dX6_nextLink_20 : decode cX6_nextLink 20 = .ok (.if_icmp .ne 13, 3) := by decide +kernel
theorem dX6_nextLink_23 : decode cX6_nextLink 23 = .ok (.aload_n 0, 1) := by decide +kernel
theorem dX6_nextLink_24 : decode cX6_nextLink 24 = .ok (.iload_n 1, 1) := by decide +kernel
theorem dX6_nextLink_25 : decode cX6_nextLink 25 = .ok (.iload 4, 2) := by decide +kernel
theorem dX6_nextLink_27 : decode cX6_nextLink 27 = .ok (.iconst 1, 1) := by decide +kernel
theorem dX6_nextLink_28 : decode cX6_nextLink 28 = .ok (.isub, 1) := by decide +kernel
theorem dX6_nextLink_29 : decode cX6_nextLink 29 = .ok (.invokevirtual 140, 3) := by decide +kernel
theorem dX6_nextLink_32 : decode cX6_nextLink 32 = .ok (.ireturn, 1) := by decide +kernel
theorem dX6_nextLink_33 : decode cX6_nextLink 33 = .ok (.iload_n 2, 1) := by decide +kernel
theorem dX6_nextLink_34 : decode cX6_nextLink 34 = .ok (.iconst 3, 1) := by decide +kernel
theorem dX6_nextLink_35 : decode cX6_nextLink 35 = .ok (.if_icmp .ne 34, 3) := by decide +kernel
theorem dX6_nextLink_38 : decode cX6_nextLink 38 = .ok (.aload_n 0, 1) := by decide +kernel
theorem dX6_nextLink_39 : decode cX6_nextLink 39 = .ok (.aload_n 0, 1) := by decide +kernel
theorem dX6_nextLink_40 : decode cX6_nextLink 40 = .ok (.getfield 143, 3) := by decide +kernel
theorem dX6_nextLink_43 : decode cX6_nextLink 43 = .ok (.ldc2_w 67, 3) := by decide +kernel
theorem dX6_nextLink_46 : decode cX6_nextLink 46 = .ok (.lmul, 1) := by decide +kernel
theorem dX6_nextLink_47 : decode cX6_nextLink 47 = .ok (.ldc2_w 69, 3) := by decide +kernel
theorem dX6_nextLink_50 : decode cX6_nextLink 50 = .ok (.lrem, 1) := by decide +kernel
theorem dX6_nextLink_51 : decode cX6_nextLink 51 = .ok (.putfield 143, 3) := by decide +kernel
theorem dX6_nextLink_54 : decode cX6_nextLink 54 = .ok (.aload_n 0, 1) := by decide +kernel
theorem dX6_nextLink_55 : decode cX6_nextLink 55 = .ok (.iload_n 1, 1) := by decide +kernel
theorem dX6_nextLink_56 : decode cX6_nextLink 56 = .ok (.aload_n 0, 1) := by decide +kernel
theorem dX6_nextLink_57 : decode cX6_nextLink 57 = .ok (.getfield 143, 3) := by decide +kernel
theorem dX6_nextLink_60 : decode cX6_nextLink 60 = .ok (.iload 4, 2) := by decide +kernel
theorem dX6_nextLink_62 : decode cX6_nextLink 62 = .ok (.i2l, 1) := by decide +kernel
theorem dX6_nextLink_63 : decode cX6_nextLink 63 = .ok (.lrem, 1) := by decide +kernel
theorem dX6_nextLink_64 : decode cX6_nextLink 64 = .ok (.l2i, 1) := by decide +kernel
theorem dX6_nextLink_65 : decode cX6_nextLink 65 = .ok (.invokevirtual 140, 3) := by decide +kernel
theorem dX6_nextLink_68 : decode cX6_nextLink 68 = .ok (.ireturn, 1) := by decide +kernel
theorem dX6_nextLink_69 : decode cX6_nextLink 69 = .ok (.iload_n 3, 1) := by decide +kernel
theorem dX6_nextLink_70 : decode cX6_nextLink 70 = .ok (.iconst 1, 1) := by decide +kernel
theorem dX6_nextLink_71 : decode cX6_nextLink 71 = .ok (.iadd, 1) := by decide +kernel
theorem dX6_nextLink_72 : decode cX6_nextLink 72 = .ok (.iconst 2, 1) := by decide +kernel
theorem dX6_nextLink_73 : decode cX6_nextLink 73 = .ok (.aload_n 0, 1) := by decide +kernel
theorem dX6_nextLink_74 : decode cX6_nextLink 74 = .ok (.getfield 41, 3) := by decide +kernel
theorem dX6_nextLink_77 : decode cX6_nextLink 77 = .ok (.imul, 1) := by decide +kernel
theorem dX6_nextLink_78 : decode cX6_nextLink 78 = .ok (.irem, 1) := by decide +kernel
theorem dX6_nextLink_79 : decode cX6_nextLink 79 = .ok (.istore 5, 2) := by decide +kernel
theorem dX6_nextLink_81 : decode cX6_nextLink 81 = .ok (.aload_n 0, 1) := by decide +kernel
theorem dX6_nextLink_82 : decode cX6_nextLink 82 = .ok (.iload_n 1, 1) := by decide +kernel
theorem dX6_nextLink_83 : decode cX6_nextLink 83 = .ok (.iload 5, 2) := by decide +kernel
theorem dX6_nextLink_85 : decode cX6_nextLink 85 = .ok (.invokevirtual 133, 3) := by decide +kernel
theorem dX6_nextLink_88 : decode cX6_nextLink 88 = .ok (.ifCond .ne 19, 3) := by decide +kernel
theorem dX6_nextLink_91 : decode cX6_nextLink 91 = .ok (.iload 5, 2) := by decide +kernel
theorem dX6_nextLink_93 : decode cX6_nextLink 93 = .ok (.iconst 1, 1) := by decide +kernel
theorem dX6_nextLink_94 : decode cX6_nextLink 94 = .ok (.iadd, 1) := by decide +kernel
theorem dX6_nextLink_95 : decode cX6_nextLink 95 = .ok (.iconst 2, 1) := by decide +kernel
theorem dX6_nextLink_96 : decode cX6_nextLink 96 = .ok (.aload_n 0, 1) := by decide +kernel
theorem dX6_nextLink_97 : decode cX6_nextLink 97 = .ok (.getfield 41, 3) := by decide +kernel
theorem dX6_nextLink_100 : decode cX6_nextLink 100 = .ok (.imul, 1) := by decide +kernel
theorem dX6_nextLink_101 : decode cX6_nextLink 101 = .ok (.irem, 1) := by decide +kernel
theorem dX6_nextLink_102 : decode cX6_nextLink 102 = .ok (.istore 5, 2) := by decide +kernel
theorem dX6_nextLink_104 : decode cX6_nextLink 104 = .ok (.goto (-23), 3) := by decide +kernel
theorem dX6_nextLink_107 : decode cX6_nextLink 107 = .ok (.iload 5, 2) := by decide +kernel
theorem dX6_nextLink_109 : decode cX6_nextLink 109 = .ok (.ireturn, 1) := by decide +kernel
theorem dX6_runs_0 : decode cX6_runs 0 = .ok (.aload_n 0, 1) := by decide +kernel
theorem dX6_runs_1 : decode cX6_runs 1 = .ok (.iload_n 3, 1) := by decide +kernel
theorem dX6_runs_2 : decode cX6_runs 2 = .ok (.i2l, 1) := by decide +kernel
theorem dX6_runs_3 : decode cX6_runs 3 = .ok (.putfield 143, 3) := by decide +kernel
theorem dX6_runs_6 : decode cX6_runs 6 = .ok (.iconst 0, 1) := by decide +kernel
theorem dX6_runs_7 : decode cX6_runs 7 = .ok (.istore 5, 2) := by decide +kernel
theorem dX6_runs_9 : decode cX6_runs 9 = .ok (.iconst (-1), 1) := by decide +kernel
theorem dX6_runs_10 : decode cX6_runs 10 = .ok (.istore 6, 2) := by decide +kernel
theorem dX6_runs_12 : decode cX6_runs 12 = .ok (.iload 5, 2) := by decide +kernel
theorem dX6_runs_14 : decode cX6_runs 14 = .ok (.iload 4, 2) := by decide +kernel
theorem dX6_runs_16 : decode cX6_runs 16 = .ok (.if_icmp .ge 55, 3) := by decide +kernel
theorem dX6_runs_19 : decode cX6_runs 19 = .ok (.aload_n 0, 1) := by decide +kernel
theorem dX6_runs_20 : decode cX6_runs 20 = .ok (.getfield 16, 3) := by decide +kernel
theorem dX6_runs_23 : decode cX6_runs 23 = .ok (.sipush 168, 3) := by decide +kernel
theorem dX6_runs_26 : decode cX6_runs 26 = .ok (.iload_n 1, 1) := by decide +kernel
theorem dX6_runs_27 : decode cX6_runs 27 = .ok (.imul, 1) := by decide +kernel
theorem dX6_runs_28 : decode cX6_runs 28 = .ok (.iconst 2, 1) := by decide +kernel
theorem dX6_runs_29 : decode cX6_runs 29 = .ok (.iadd, 1) := by decide +kernel
theorem dX6_runs_30 : decode cX6_runs 30 = .ok (.iaload, 1) := by decide +kernel
theorem dX6_runs_31 : decode cX6_runs 31 = .ok (.ifCond .le 40, 3) := by decide +kernel
theorem dX6_runs_34 : decode cX6_runs 34 = .ok (.aload_n 0, 1) := by decide +kernel
theorem dX6_runs_35 : decode cX6_runs 35 = .ok (.iload_n 1, 1) := by decide +kernel
theorem dX6_runs_36 : decode cX6_runs 36 = .ok (.iload_n 2, 1) := by decide +kernel
theorem dX6_runs_37 : decode cX6_runs 37 = .ok (.iload 6, 2) := by decide +kernel
theorem dX6_runs_39 : decode cX6_runs 39 = .ok (.invokevirtual 147, 3) := by decide +kernel
theorem dX6_runs_42 : decode cX6_runs 42 = .ok (.istore 6, 2) := by decide +kernel
theorem dX6_runs_44 : decode cX6_runs 44 = .ok (.aload_n 0, 1) := by decide +kernel
theorem dX6_runs_45 : decode cX6_runs 45 = .ok (.iload_n 1, 1) := by decide +kernel
theorem dX6_runs_46 : decode cX6_runs 46 = .ok (.iload 6, 2) := by decide +kernel
theorem dX6_runs_48 : decode cX6_runs 48 = .ok (.invokevirtual 150, 3) := by decide +kernel
theorem dX6_runs_51 : decode cX6_runs 51 = .ok (.istore 7, 2) := by decide +kernel
theorem dX6_runs_53 : decode cX6_runs 53 = .ok (.iload 5, 2) := by decide +kernel
theorem dX6_runs_55 : decode cX6_runs 55 = .ok (.iload 7, 2) := by decide +kernel
theorem dX6_runs_57 : decode cX6_runs 57 = .ok (.ifCond .le 7, 3) := by decide +kernel
theorem dX6_runs_60 : decode cX6_runs 60 = .ok (.iconst 1, 1) := by decide +kernel
theorem dX6_runs_61 : decode cX6_runs 61 = .ok (.goto 4, 3) := by decide +kernel
theorem dX6_runs_64 : decode cX6_runs 64 = .ok (.iconst 0, 1) := by decide +kernel
theorem dX6_runs_65 : decode cX6_runs 65 = .ok (.iadd, 1) := by decide +kernel
theorem dX6_runs_66 : decode cX6_runs 66 = .ok (.istore 5, 2) := by decide +kernel
theorem dX6_runs_68 : decode cX6_runs 68 = .ok (.goto (-56), 3) := by decide +kernel
theorem dX6_runs_71 : decode cX6_runs 71 = .ok (.iload 5, 2) := by decide +kernel
theorem dX6_runs_73 : decode cX6_runs 73 = .ok (.ireturn, 1) := by decide +kernel
theorem dX6_notes_0 : decode cX6_notes 0 = .ok (.aload_n 0, 1) := by decide +kernel
theorem dX6_notes_1 : decode cX6_notes 1 = .ok (.getfield 153, 3) := by decide +kernel
theorem dX6_notes_4 : decode cX6_notes 4 = .ok (.bipush 20, 2) := by decide +kernel
theorem dX6_notes_6 : decode cX6_notes 6 = .ok (.if_icmp .ne 35, 3) := by decide +kernel
theorem dX6_notes_9 : decode cX6_notes 9 = .ok (.iconst 1, 1) := by decide +kernel
theorem dX6_notes_10 : decode cX6_notes 10 = .ok (.istore_n 1, 1) := by decide +kernel
theorem dX6_notes_11 : decode cX6_notes 11 = .ok (.iload_n 1, 1) := by decide +kernel
theorem dX6_notes_12 : decode cX6_notes 12 = .ok (.bipush 20, 2) := by decide +kernel
theorem dX6_notes_14 : decode cX6_notes 14 = .ok (.if_icmp .ge 17, 3) := by decide +kernel
theorem dX6_notes_17 : decode cX6_notes 17 = .ok (.aload_n 0, 1) := by decide +kernel
theorem dX6_notes_18 : decode cX6_notes 18 = .ok (.iload_n 1, 1) := by decide +kernel
theorem dX6_notes_19 : decode cX6_notes 19 = .ok (.iconst 1, 1) := by decide +kernel
theorem dX6_notes_20 : decode cX6_notes 20 = .ok (.iadd, 1) := by decide +kernel
theorem dX6_notes_21 : decode cX6_notes 21 = .ok (.iload_n 1, 1) := by decide +kernel
theorem dX6_notes_22 : decode cX6_notes 22 = .ok (.invokevirtual 156, 3) := by decide +kernel
theorem dX6_notes_25 : decode cX6_notes 25 = .ok (.iinc 1 1, 3) := by decide +kernel
theorem dX6_notes_28 : decode cX6_notes 28 = .ok (.goto (-17), 3) := by decide +kernel
theorem dX6_notes_31 : decode cX6_notes 31 = .ok (.aload_n 0, 1) := by decide +kernel
theorem dX6_notes_32 : decode cX6_notes 32 = .ok (.dup, 1) := by decide +kernel
theorem dX6_notes_33 : decode cX6_notes 33 = .ok (.getfield 153, 3) := by decide +kernel
theorem dX6_notes_36 : decode cX6_notes 36 = .ok (.iconst 1, 1) := by decide +kernel
theorem dX6_notes_37 : decode cX6_notes 37 = .ok (.isub, 1) := by decide +kernel
theorem dX6_notes_38 : decode cX6_notes 38 = .ok (.putfield 153, 3) := by decide +kernel
theorem dX6_notes_41 : decode cX6_notes 41 = .ok (.aload_n 0, 1) := by decide +kernel
theorem dX6_notes_42 : decode cX6_notes 42 = .ok (.dup, 1) := by decide +kernel
theorem dX6_notes_43 : decode cX6_notes 43 = .ok (.getfield 153, 3) := by decide +kernel
theorem dX6_notes_46 : decode cX6_notes 46 = .ok (.iconst 1, 1) := by decide +kernel
theorem dX6_notes_47 : decode cX6_notes 47 = .ok (.iadd, 1) := by decide +kernel
theorem dX6_notes_48 : decode cX6_notes 48 = .ok (.putfield 153, 3) := by decide +kernel
theorem dX6_notes_51 : decode cX6_notes 51 = .ok (.aload_n 0, 1) := by decide +kernel
theorem dX6_notes_52 : decode cX6_notes 52 = .ok (.iconst 0, 1) := by decide +kernel
theorem dX6_notes_53 : decode cX6_notes 53 = .ok (.aload_n 0, 1) := by decide +kernel
theorem dX6_notes_54 : decode cX6_notes 54 = .ok (.getfield 153, 3) := by decide +kernel
theorem dX6_notes_57 : decode cX6_notes 57 = .ok (.invokevirtual 156, 3) := by decide +kernel
theorem dX6_notes_60 : decode cX6_notes 60 = .ok (.return_, 1) := by decide +kernel
theorem dX6_write_0 : decode cX6_write 0 = .ok (.iload_n 1, 1) := by decide +kernel
theorem dX6_write_1 : decode cX6_write 1 = .ok (.i2l, 1) := by decide +kernel
theorem dX6_write_2 : decode cX6_write 2 = .ok (.lconst 0, 1) := by decide +kernel
theorem dX6_write_3 : decode cX6_write 3 = .ok (.ldc2_w 159, 3) := by decide +kernel
theorem dX6_write_6 : decode cX6_write 6 = .ok (.invokestatic 45, 3) := by decide +kernel
theorem dX6_write_9 : decode cX6_write 9 = .ok (.ifCond .ne 6, 3) := by decide +kernel
theorem dX6_write_12 : decode cX6_write 12 = .ok (.ldc 161, 2) := by decide +kernel
theorem dX6_write_14 : decode cX6_write 14 = .ok (.ireturn, 1) := by decide +kernel
theorem dX6_write_15 : decode cX6_write 15 = .ok (.aload_n 0, 1) := by decide +kernel
theorem dX6_write_16 : decode cX6_write 16 = .ok (.getfield 162, 3) := by decide +kernel
theorem dX6_write_19 : decode cX6_write 19 = .ok (.bipush 40, 2) := by decide +kernel
theorem dX6_write_21 : decode cX6_write 21 = .ok (.if_icmp .ne 6, 3) := by decide +kernel
theorem dX6_write_24 : decode cX6_write 24 = .ok (.ldc 165, 2) := by decide +kernel
theorem dX6_write_26 : decode cX6_write 26 = .ok (.ireturn, 1) := by decide +kernel
theorem dX6_write_27 : decode cX6_write 27 = .ok (.aload_n 0, 1) := by decide +kernel
theorem dX6_write_28 : decode cX6_write 28 = .ok (.getfield 19, 3) := by decide +kernel
theorem dX6_write_31 : decode cX6_write 31 = .ok (.aload_n 0, 1) := by decide +kernel
theorem dX6_write_32 : decode cX6_write 32 = .ok (.getfield 162, 3) := by decide +kernel
theorem dX6_write_35 : decode cX6_write 35 = .ok (.iload_n 1, 1) := by decide +kernel
theorem dX6_write_36 : decode cX6_write 36 = .ok (.iastore, 1) := by decide +kernel
theorem dX6_write_37 : decode cX6_write 37 = .ok (.aload_n 0, 1) := by decide +kernel
theorem dX6_write_38 : decode cX6_write 38 = .ok (.dup, 1) := by decide +kernel
theorem dX6_write_39 : decode cX6_write 39 = .ok (.getfield 162, 3) := by decide +kernel
theorem dX6_write_42 : decode cX6_write 42 = .ok (.iconst 1, 1) := by decide +kernel
theorem dX6_write_43 : decode cX6_write 43 = .ok (.iadd, 1) := by decide +kernel
theorem dX6_write_44 : decode cX6_write 44 = .ok (.putfield 162, 3) := by decide +kernel
theorem dX6_write_47 : decode cX6_write 47 = .ok (.aload_n 0, 1) := by decide +kernel
theorem dX6_write_48 : decode cX6_write 48 = .ok (.getfield 162, 3) := by decide +kernel
theorem dX6_write_51 : decode cX6_write 51 = .ok (.ireturn, 1) := by decide +kernel
theorem dX6_isDigit_0 : decode cX6_isDigit 0 = .ok (.iload_n 1, 1) := by decide +kernel
theorem dX6_isDigit_1 : decode cX6_isDigit 1 = .ok (.aload_n 0, 1) := by decide +kernel
theorem dX6_isDigit_2 : decode cX6_isDigit 2 = .ok (.getfield 162, 3) := by decide +kernel
theorem dX6_isDigit_5 : decode cX6_isDigit 5 = .ok (.if_icmp .ge 26, 3) := by decide +kernel
theorem dX6_isDigit_8 : decode cX6_isDigit 8 = .ok (.aload_n 0, 1) := by decide +kernel
theorem dX6_isDigit_9 : decode cX6_isDigit 9 = .ok (.getfield 19, 3) := by decide +kernel
theorem dX6_isDigit_12 : decode cX6_isDigit 12 = .ok (.iload_n 1, 1) := by decide +kernel
theorem dX6_isDigit_13 : decode cX6_isDigit 13 = .ok (.iaload, 1) := by decide +kernel
theorem dX6_isDigit_14 : decode cX6_isDigit 14 = .ok (.i2l, 1) := by decide +kernel
theorem dX6_isDigit_15 : decode cX6_isDigit 15 = .ok (.ldc2_w 166, 3) := by decide +kernel
theorem dX6_isDigit_18 : decode cX6_isDigit 18 = .ok (.ldc2_w 168, 3) := by decide +kernel
theorem dX6_isDigit_21 : decode cX6_isDigit 21 = .ok (.invokestatic 45, 3) := by decide +kernel
theorem dX6_isDigit_24 : decode cX6_isDigit 24 = .ok (.ifCond .eq 7, 3) := by decide +kernel
theorem dX6_isDigit_27 : decode cX6_isDigit 27 = .ok (.iconst 1, 1) := by decide +kernel
theorem dX6_isDigit_28 : decode cX6_isDigit 28 = .ok (.goto 4, 3) := by decide +kernel
theorem dX6_isDigit_31 : decode cX6_isDigit 31 = .ok (.iconst 0, 1) := by decide +kernel
theorem dX6_isDigit_32 : decode cX6_isDigit 32 = .ok (.ireturn, 1) := by decide +kernel
theorem dX6_reads_0 : decode cX6_reads 0 = .ok (.aload_n 0, 1) := by decide +kernel
theorem dX6_reads_1 : decode cX6_reads 1 = .ok (.getfield 170, 3) := by decide +kernel
theorem dX6_reads_4 : decode cX6_reads 4 = .ok (.aload_n 0, 1) := by decide +kernel
theorem dX6_reads_5 : decode cX6_reads 5 = .ok (.getfield 162, 3) := by decide +kernel
theorem dX6_reads_8 : decode cX6_reads 8 = .ok (.if_icmp .ge 30, 3) := by decide +kernel
theorem dX6_reads_11 : decode cX6_reads 11 = .ok (.aload_n 0, 1) := by decide +kernel
theorem dX6_reads_12 : decode cX6_reads 12 = .ok (.getfield 19, 3) := by decide +kernel
theorem dX6_reads_15 : decode cX6_reads 15 = .ok (.aload_n 0, 1) := by decide +kernel
theorem dX6_reads_16 : decode cX6_reads 16 = .ok (.getfield 170, 3) := by decide +kernel
theorem dX6_reads_19 : decode cX6_reads 19 = .ok (.iaload, 1) := by decide +kernel
theorem dX6_reads_20 : decode cX6_reads 20 = .ok (.bipush 32, 2) := by decide +kernel
theorem dX6_reads_22 : decode cX6_reads 22 = .ok (.if_icmp .ne 16, 3) := by decide +kernel
theorem dX6_reads_25 : decode cX6_reads 25 = .ok (.aload_n 0, 1) := by decide +kernel
theorem dX6_reads_26 : decode cX6_reads 26 = .ok (.dup, 1) := by decide +kernel
theorem dX6_reads_27 : decode cX6_reads 27 = .ok (.getfield 170, 3) := by decide +kernel
theorem dX6_reads_30 : decode cX6_reads 30 = .ok (.iconst 1, 1) := by decide +kernel
theorem dX6_reads_31 : decode cX6_reads 31 = .ok (.iadd, 1) := by decide +kernel
theorem dX6_reads_32 : decode cX6_reads 32 = .ok (.putfield 170, 3) := by decide +kernel
theorem dX6_reads_35 : decode cX6_reads 35 = .ok (.goto (-35), 3) := by decide +kernel
theorem dX6_reads_38 : decode cX6_reads 38 = .ok (.aload_n 0, 1) := by decide +kernel
theorem dX6_reads_39 : decode cX6_reads 39 = .ok (.aload_n 0, 1) := by decide +kernel
theorem dX6_reads_40 : decode cX6_reads 40 = .ok (.getfield 170, 3) := by decide +kernel
theorem dX6_reads_43 : decode cX6_reads 43 = .ok (.putfield 173, 3) := by decide +kernel
theorem dX6_reads_46 : decode cX6_reads 46 = .ok (.aload_n 0, 1) := by decide +kernel
theorem dX6_reads_47 : decode cX6_reads 47 = .ok (.getfield 170, 3) := by decide +kernel
theorem dX6_reads_50 : decode cX6_reads 50 = .ok (.aload_n 0, 1) := by decide +kernel
theorem dX6_reads_51 : decode cX6_reads 51 = .ok (.getfield 162, 3) := by decide +kernel
theorem dX6_reads_54 : decode cX6_reads 54 = .ok (.if_icmp .ne 9, 3) := by decide +kernel
theorem dX6_reads_57 : decode cX6_reads 57 = .ok (.aload_n 0, 1) := by decide +kernel
theorem dX6_reads_58 : decode cX6_reads 58 = .ok (.iconst (-1), 1) := by decide +kernel
theorem dX6_reads_59 : decode cX6_reads 59 = .ok (.putfield 176, 3) := by decide +kernel
theorem dX6_reads_62 : decode cX6_reads 62 = .ok (.return_, 1) := by decide +kernel
theorem dX6_reads_63 : decode cX6_reads 63 = .ok (.aload_n 0, 1) := by decide +kernel
theorem dX6_reads_64 : decode cX6_reads 64 = .ok (.aload_n 0, 1) := by decide +kernel
end
section
theorem dX6_reads_65 : decode cX6_reads 65 = .ok (.getfield 19, 3) := by decide +kernel
theorem dX6_reads_68 : decode cX6_reads 68 = .ok (.aload_n 0, 1) := by decide +kernel
theorem dX6_reads_69 : decode cX6_reads 69 = .ok (.getfield 170, 3) := by decide +kernel
theorem dX6_reads_72 : decode cX6_reads 72 = .ok (.iaload, 1) := by decide +kernel
theorem dX6_reads_73 : decode cX6_reads 73 = .ok (.ifCond .ne 7, 3) := by decide +kernel
theorem dX6_reads_76 : decode cX6_reads 76 = .ok (.iconst 1, 1) := by decide +kernel
theorem dX6_reads_77 : decode cX6_reads 77 = .ok (.goto 12, 3) := by decide +kernel
theorem dX6_reads_80 : decode cX6_reads 80 = .ok (.aload_n 0, 1) := by decide +kernel
theorem dX6_reads_81 : decode cX6_reads 81 = .ok (.getfield 19, 3) := by decide +kernel
theorem dX6_reads_84 : decode cX6_reads 84 = .ok (.aload_n 0, 1) := by decide +kernel
theorem dX6_reads_85 : decode cX6_reads 85 = .ok (.getfield 170, 3) := by decide +kernel
theorem dX6_reads_88 : decode cX6_reads 88 = .ok (.iaload, 1) := by decide +kernel
theorem dX6_reads_89 : decode cX6_reads 89 = .ok (.putfield 176, 3) := by decide +kernel
theorem dX6_reads_92 : decode cX6_reads 92 = .ok (.aload_n 0, 1) := by decide +kernel
theorem dX6_reads_93 : decode cX6_reads 93 = .ok (.iconst 0, 1) := by decide +kernel
theorem dX6_reads_94 : decode cX6_reads 94 = .ok (.putfield 179, 3) := by decide +kernel
theorem dX6_reads_97 : decode cX6_reads 97 = .ok (.aload_n 0, 1) := by decide +kernel
theorem dX6_reads_98 : decode cX6_reads 98 = .ok (.iconst 0, 1) := by decide +kernel
theorem dX6_reads_99 : decode cX6_reads 99 = .ok (.putfield 182, 3) := by decide +kernel
theorem dX6_reads_102 : decode cX6_reads 102 = .ok (.aload_n 0, 1) := by decide +kernel
theorem dX6_reads_103 : decode cX6_reads 103 = .ok (.aload_n 0, 1) := by decide +kernel
theorem dX6_reads_104 : decode cX6_reads 104 = .ok (.getfield 170, 3) := by decide +kernel
theorem dX6_reads_107 : decode cX6_reads 107 = .ok (.invokevirtual 185, 3) := by decide +kernel
theorem dX6_reads_110 : decode cX6_reads 110 = .ok (.ifCond .eq 70, 3) := by decide +kernel
theorem dX6_reads_113 : decode cX6_reads 113 = .ok (.aload_n 0, 1) := by decide +kernel
theorem dX6_reads_114 : decode cX6_reads 114 = .ok (.aload_n 0, 1) := by decide +kernel
theorem dX6_reads_115 : decode cX6_reads 115 = .ok (.getfield 179, 3) := by decide +kernel
theorem dX6_reads_118 : decode cX6_reads 118 = .ok (.iconst 2, 1) := by decide +kernel
theorem dX6_reads_119 : decode cX6_reads 119 = .ok (.if_icmp .ge 26, 3) := by decide +kernel
theorem dX6_reads_122 : decode cX6_reads 122 = .ok (.bipush 10, 2) := by decide +kernel
theorem dX6_reads_124 : decode cX6_reads 124 = .ok (.aload_n 0, 1) := by decide +kernel
theorem dX6_reads_125 : decode cX6_reads 125 = .ok (.getfield 182, 3) := by decide +kernel
theorem dX6_reads_128 : decode cX6_reads 128 = .ok (.imul, 1) := by decide +kernel
theorem dX6_reads_129 : decode cX6_reads 129 = .ok (.aload_n 0, 1) := by decide +kernel
theorem dX6_reads_130 : decode cX6_reads 130 = .ok (.getfield 19, 3) := by decide +kernel
theorem dX6_reads_133 : decode cX6_reads 133 = .ok (.aload_n 0, 1) := by decide +kernel
theorem dX6_reads_134 : decode cX6_reads 134 = .ok (.getfield 170, 3) := by decide +kernel
theorem dX6_reads_137 : decode cX6_reads 137 = .ok (.iaload, 1) := by decide +kernel
theorem dX6_reads_138 : decode cX6_reads 138 = .ok (.iadd, 1) := by decide +kernel
theorem dX6_reads_139 : decode cX6_reads 139 = .ok (.bipush 48, 2) := by decide +kernel
theorem dX6_reads_141 : decode cX6_reads 141 = .ok (.isub, 1) := by decide +kernel
theorem dX6_reads_142 : decode cX6_reads 142 = .ok (.goto 7, 3) := by decide +kernel
theorem dX6_reads_145 : decode cX6_reads 145 = .ok (.aload_n 0, 1) := by decide +kernel
theorem dX6_reads_146 : decode cX6_reads 146 = .ok (.getfield 182, 3) := by decide +kernel
theorem dX6_reads_149 : decode cX6_reads 149 = .ok (.putfield 182, 3) := by decide +kernel
theorem dX6_reads_152 : decode cX6_reads 152 = .ok (.aload_n 0, 1) := by decide +kernel
theorem dX6_reads_153 : decode cX6_reads 153 = .ok (.dup, 1) := by decide +kernel
theorem dX6_reads_154 : decode cX6_reads 154 = .ok (.getfield 179, 3) := by decide +kernel
theorem dX6_reads_157 : decode cX6_reads 157 = .ok (.iconst 1, 1) := by decide +kernel
theorem dX6_reads_158 : decode cX6_reads 158 = .ok (.iadd, 1) := by decide +kernel
theorem dX6_reads_159 : decode cX6_reads 159 = .ok (.putfield 179, 3) := by decide +kernel
theorem dX6_reads_162 : decode cX6_reads 162 = .ok (.aload_n 0, 1) := by decide +kernel
theorem dX6_reads_163 : decode cX6_reads 163 = .ok (.dup, 1) := by decide +kernel
theorem dX6_reads_164 : decode cX6_reads 164 = .ok (.getfield 170, 3) := by decide +kernel
theorem dX6_reads_167 : decode cX6_reads 167 = .ok (.iconst 1, 1) := by decide +kernel
theorem dX6_reads_168 : decode cX6_reads 168 = .ok (.iadd, 1) := by decide +kernel
theorem dX6_reads_169 : decode cX6_reads 169 = .ok (.putfield 170, 3) := by decide +kernel
theorem dX6_reads_172 : decode cX6_reads 172 = .ok (.aload_n 0, 1) := by decide +kernel
theorem dX6_reads_173 : decode cX6_reads 173 = .ok (.iconst 0, 1) := by decide +kernel
theorem dX6_reads_174 : decode cX6_reads 174 = .ok (.putfield 176, 3) := by decide +kernel
theorem dX6_reads_177 : decode cX6_reads 177 = .ok (.goto (-75), 3) := by decide +kernel
theorem dX6_reads_180 : decode cX6_reads 180 = .ok (.aload_n 0, 1) := by decide +kernel
theorem dX6_reads_181 : decode cX6_reads 181 = .ok (.dup, 1) := by decide +kernel
theorem dX6_reads_182 : decode cX6_reads 182 = .ok (.getfield 170, 3) := by decide +kernel
theorem dX6_reads_185 : decode cX6_reads 185 = .ok (.aload_n 0, 1) := by decide +kernel
theorem dX6_reads_186 : decode cX6_reads 186 = .ok (.getfield 176, 3) := by decide +kernel
theorem dX6_reads_189 : decode cX6_reads 189 = .ok (.ifCond .ne 7, 3) := by decide +kernel
theorem dX6_reads_192 : decode cX6_reads 192 = .ok (.iconst 0, 1) := by decide +kernel
theorem dX6_reads_193 : decode cX6_reads 193 = .ok (.goto 4, 3) := by decide +kernel
theorem dX6_reads_196 : decode cX6_reads 196 = .ok (.iconst 1, 1) := by decide +kernel
theorem dX6_reads_197 : decode cX6_reads 197 = .ok (.iadd, 1) := by decide +kernel
theorem dX6_reads_198 : decode cX6_reads 198 = .ok (.putfield 170, 3) := by decide +kernel
theorem dX6_reads_201 : decode cX6_reads 201 = .ok (.return_, 1) := by decide +kernel
theorem dX6_isTold_0 : decode cX6_isTold 0 = .ok (.iconst 0, 1) := by decide +kernel
theorem dX6_isTold_1 : decode cX6_isTold 1 = .ok (.istore_n 3, 1) := by decide +kernel
theorem dX6_isTold_2 : decode cX6_isTold 2 = .ok (.iconst 0, 1) := by decide +kernel
theorem dX6_isTold_3 : decode cX6_isTold 3 = .ok (.istore 4, 2) := by decide +kernel
theorem dX6_isTold_5 : decode cX6_isTold 5 = .ok (.iload 4, 2) := by decide +kernel
theorem dX6_isTold_7 : decode cX6_isTold 7 = .ok (.iload_n 2, 1) := by decide +kernel
theorem dX6_isTold_8 : decode cX6_isTold 8 = .ok (.if_icmp .ge 30, 3) := by decide +kernel
theorem dX6_isTold_11 : decode cX6_isTold 11 = .ok (.iload_n 3, 1) := by decide +kernel
theorem dX6_isTold_12 : decode cX6_isTold 12 = .ok (.ifCond .ne 14, 3) := by decide +kernel
theorem dX6_isTold_15 : decode cX6_isTold 15 = .ok (.aload_n 0, 1) := by decide +kernel
theorem dX6_isTold_16 : decode cX6_isTold 16 = .ok (.getfield 22, 3) := by decide +kernel
theorem dX6_isTold_19 : decode cX6_isTold 19 = .ok (.iload 4, 2) := by decide +kernel
theorem dX6_isTold_21 : decode cX6_isTold 21 = .ok (.iaload, 1) := by decide +kernel
theorem dX6_isTold_22 : decode cX6_isTold 22 = .ok (.iload_n 1, 1) := by decide +kernel
theorem dX6_isTold_23 : decode cX6_isTold 23 = .ok (.if_icmp .ne 7, 3) := by decide +kernel
theorem dX6_isTold_26 : decode cX6_isTold 26 = .ok (.iconst 1, 1) := by decide +kernel
theorem dX6_isTold_27 : decode cX6_isTold 27 = .ok (.goto 4, 3) := by decide +kernel
theorem dX6_isTold_30 : decode cX6_isTold 30 = .ok (.iconst 0, 1) := by decide +kernel
theorem dX6_isTold_31 : decode cX6_isTold 31 = .ok (.istore_n 3, 1) := by decide +kernel
theorem dX6_isTold_32 : decode cX6_isTold 32 = .ok (.iinc 4 1, 3) := by decide +kernel
theorem dX6_isTold_35 : decode cX6_isTold 35 = .ok (.goto (-30), 3) := by decide +kernel
theorem dX6_isTold_38 : decode cX6_isTold 38 = .ok (.iload_n 3, 1) := by decide +kernel
theorem dX6_isTold_39 : decode cX6_isTold 39 = .ok (.ireturn, 1) := by decide +kernel
theorem dX6_readsContender_0 : decode cX6_readsContender 0 = .ok (.aload_n 0, 1) := by decide +kernel
theorem dX6_readsContender_1 : decode cX6_readsContender 1 = .ok (.getfield 176, 3) := by decide +kernel
theorem dX6_readsContender_4 : decode cX6_readsContender 4 = .ok (.ifCond .eq 5, 3) := by decide +kernel
theorem dX6_readsContender_7 : decode cX6_readsContender 7 = .ok (.iconst 1, 1) := by decide +kernel
theorem dX6_readsContender_8 : decode cX6_readsContender 8 = .ok (.ireturn, 1) := by decide +kernel
theorem dX6_readsContender_9 : decode cX6_readsContender 9 = .ok (.aload_n 0, 1) := by decide +kernel
theorem dX6_readsContender_10 : decode cX6_readsContender 10 = .ok (.getfield 179, 3) := by decide +kernel
theorem dX6_readsContender_13 : decode cX6_readsContender 13 = .ok (.iconst 2, 1) := by decide +kernel
theorem dX6_readsContender_14 : decode cX6_readsContender 14 = .ok (.if_icmp .gt 22, 3) := by decide +kernel
theorem dX6_readsContender_17 : decode cX6_readsContender 17 = .ok (.aload_n 0, 1) := by decide +kernel
theorem dX6_readsContender_18 : decode cX6_readsContender 18 = .ok (.getfield 182, 3) := by decide +kernel
theorem dX6_readsContender_21 : decode cX6_readsContender 21 = .ok (.ifCond .eq 15, 3) := by decide +kernel
theorem dX6_readsContender_24 : decode cX6_readsContender 24 = .ok (.aload_n 0, 1) := by decide +kernel
theorem dX6_readsContender_25 : decode cX6_readsContender 25 = .ok (.aload_n 0, 1) := by decide +kernel
theorem dX6_readsContender_26 : decode cX6_readsContender 26 = .ok (.getfield 182, 3) := by decide +kernel
theorem dX6_readsContender_29 : decode cX6_readsContender 29 = .ok (.iload_n 1, 1) := by decide +kernel
theorem dX6_readsContender_30 : decode cX6_readsContender 30 = .ok (.invokevirtual 189, 3) := by decide +kernel
theorem dX6_readsContender_33 : decode cX6_readsContender 33 = .ok (.ifCond .eq 5, 3) := by decide +kernel
theorem dX6_readsContender_36 : decode cX6_readsContender 36 = .ok (.iconst 2, 1) := by decide +kernel
theorem dX6_readsContender_37 : decode cX6_readsContender 37 = .ok (.ireturn, 1) := by decide +kernel
theorem dX6_readsContender_38 : decode cX6_readsContender 38 = .ok (.iload_n 1, 1) := by decide +kernel
theorem dX6_readsContender_39 : decode cX6_readsContender 39 = .ok (.bipush 6, 2) := by decide +kernel
theorem dX6_readsContender_41 : decode cX6_readsContender 41 = .ok (.if_icmp .ne 5, 3) := by decide +kernel
theorem dX6_readsContender_44 : decode cX6_readsContender 44 = .ok (.iconst 3, 1) := by decide +kernel
theorem dX6_readsContender_45 : decode cX6_readsContender 45 = .ok (.ireturn, 1) := by decide +kernel
theorem dX6_readsContender_46 : decode cX6_readsContender 46 = .ok (.aload_n 0, 1) := by decide +kernel
theorem dX6_readsContender_47 : decode cX6_readsContender 47 = .ok (.getfield 22, 3) := by decide +kernel
theorem dX6_readsContender_50 : decode cX6_readsContender 50 = .ok (.iload_n 1, 1) := by decide +kernel
theorem dX6_readsContender_51 : decode cX6_readsContender 51 = .ok (.aload_n 0, 1) := by decide +kernel
theorem dX6_readsContender_52 : decode cX6_readsContender 52 = .ok (.getfield 182, 3) := by decide +kernel
theorem dX6_readsContender_55 : decode cX6_readsContender 55 = .ok (.iastore, 1) := by decide +kernel
theorem dX6_readsContender_56 : decode cX6_readsContender 56 = .ok (.aload_n 0, 1) := by decide +kernel
theorem dX6_readsContender_57 : decode cX6_readsContender 57 = .ok (.invokevirtual 193, 3) := by decide +kernel
theorem dX6_readsContender_60 : decode cX6_readsContender 60 = .ok (.aload_n 0, 1) := by decide +kernel
theorem dX6_readsContender_61 : decode cX6_readsContender 61 = .ok (.getfield 176, 3) := by decide +kernel
theorem dX6_readsContender_64 : decode cX6_readsContender 64 = .ok (.bipush 114, 2) := by decide +kernel
theorem dX6_readsContender_66 : decode cX6_readsContender 66 = .ok (.if_icmp .eq 14, 3) := by decide +kernel
theorem dX6_readsContender_69 : decode cX6_readsContender 69 = .ok (.aload_n 0, 1) := by decide +kernel
theorem dX6_readsContender_70 : decode cX6_readsContender 70 = .ok (.getfield 176, 3) := by decide +kernel
theorem dX6_readsContender_73 : decode cX6_readsContender 73 = .ok (.bipush 98, 2) := by decide +kernel
theorem dX6_readsContender_75 : decode cX6_readsContender 75 = .ok (.if_icmp .eq 5, 3) := by decide +kernel
theorem dX6_readsContender_78 : decode cX6_readsContender 78 = .ok (.iconst 1, 1) := by decide +kernel
theorem dX6_readsContender_79 : decode cX6_readsContender 79 = .ok (.ireturn, 1) := by decide +kernel
theorem dX6_readsContender_80 : decode cX6_readsContender 80 = .ok (.aload_n 0, 1) := by decide +kernel
theorem dX6_readsContender_81 : decode cX6_readsContender 81 = .ok (.getfield 25, 3) := by decide +kernel
theorem dX6_readsContender_84 : decode cX6_readsContender 84 = .ok (.iload_n 1, 1) := by decide +kernel
theorem dX6_readsContender_85 : decode cX6_readsContender 85 = .ok (.aload_n 0, 1) := by decide +kernel
theorem dX6_readsContender_86 : decode cX6_readsContender 86 = .ok (.getfield 176, 3) := by decide +kernel
theorem dX6_readsContender_89 : decode cX6_readsContender 89 = .ok (.bipush 114, 2) := by decide +kernel
theorem dX6_readsContender_91 : decode cX6_readsContender 91 = .ok (.if_icmp .ne 7, 3) := by decide +kernel
theorem dX6_readsContender_94 : decode cX6_readsContender 94 = .ok (.iconst 0, 1) := by decide +kernel
theorem dX6_readsContender_95 : decode cX6_readsContender 95 = .ok (.goto 4, 3) := by decide +kernel
theorem dX6_readsContender_98 : decode cX6_readsContender 98 = .ok (.iconst 1, 1) := by decide +kernel
theorem dX6_readsContender_99 : decode cX6_readsContender 99 = .ok (.iastore, 1) := by decide +kernel
theorem dX6_readsContender_100 : decode cX6_readsContender 100 = .ok (.aload_n 0, 1) := by decide +kernel
theorem dX6_readsContender_101 : decode cX6_readsContender 101 = .ok (.invokevirtual 193, 3) := by decide +kernel
theorem dX6_readsContender_104 : decode cX6_readsContender 104 = .ok (.aload_n 0, 1) := by decide +kernel
theorem dX6_readsContender_105 : decode cX6_readsContender 105 = .ok (.getfield 176, 3) := by decide +kernel
theorem dX6_readsContender_108 : decode cX6_readsContender 108 = .ok (.bipush 59, 2) := by decide +kernel
theorem dX6_readsContender_110 : decode cX6_readsContender 110 = .ok (.if_icmp .eq 5, 3) := by decide +kernel
theorem dX6_readsContender_113 : decode cX6_readsContender 113 = .ok (.iconst 1, 1) := by decide +kernel
theorem dX6_readsContender_114 : decode cX6_readsContender 114 = .ok (.ireturn, 1) := by decide +kernel
theorem dX6_readsContender_115 : decode cX6_readsContender 115 = .ok (.aload_n 0, 1) := by decide +kernel
theorem dX6_readsContender_116 : decode cX6_readsContender 116 = .ok (.invokevirtual 193, 3) := by decide +kernel
theorem dX6_readsContender_119 : decode cX6_readsContender 119 = .ok (.iconst 0, 1) := by decide +kernel
theorem dX6_readsContender_120 : decode cX6_readsContender 120 = .ok (.ireturn, 1) := by decide +kernel
theorem dX6_ring_0 : decode cX6_ring 0 = .ok (.aload_n 0, 1) := by decide +kernel
theorem dX6_ring_1 : decode cX6_ring 1 = .ok (.iconst 0, 1) := by decide +kernel
theorem dX6_ring_2 : decode cX6_ring 2 = .ok (.putfield 170, 3) := by decide +kernel
theorem dX6_ring_5 : decode cX6_ring 5 = .ok (.aload_n 0, 1) := by decide +kernel
theorem dX6_ring_6 : decode cX6_ring 6 = .ok (.invokevirtual 193, 3) := by decide +kernel
theorem dX6_ring_9 : decode cX6_ring 9 = .ok (.iconst 0, 1) := by decide +kernel
theorem dX6_ring_10 : decode cX6_ring 10 = .ok (.istore_n 1, 1) := by decide +kernel
theorem dX6_ring_11 : decode cX6_ring 11 = .ok (.iconst 0, 1) := by decide +kernel
theorem dX6_ring_12 : decode cX6_ring 12 = .ok (.istore_n 2, 1) := by decide +kernel
theorem dX6_ring_13 : decode cX6_ring 13 = .ok (.iload_n 2, 1) := by decide +kernel
theorem dX6_ring_14 : decode cX6_ring 14 = .ok (.ifCond .ne 28, 3) := by decide +kernel
theorem dX6_ring_17 : decode cX6_ring 17 = .ok (.iload_n 1, 1) := by decide +kernel
theorem dX6_ring_18 : decode cX6_ring 18 = .ok (.iconst 2, 1) := by decide +kernel
theorem dX6_ring_19 : decode cX6_ring 19 = .ok (.if_icmp .lt 11, 3) := by decide +kernel
theorem dX6_ring_22 : decode cX6_ring 22 = .ok (.aload_n 0, 1) := by decide +kernel
theorem dX6_ring_23 : decode cX6_ring 23 = .ok (.getfield 176, 3) := by decide +kernel
theorem dX6_ring_26 : decode cX6_ring 26 = .ok (.iconst (-1), 1) := by decide +kernel
theorem dX6_ring_27 : decode cX6_ring 27 = .ok (.if_icmp .eq 15, 3) := by decide +kernel
theorem dX6_ring_30 : decode cX6_ring 30 = .ok (.aload_n 0, 1) := by decide +kernel
theorem dX6_ring_31 : decode cX6_ring 31 = .ok (.iload_n 1, 1) := by decide +kernel
theorem dX6_ring_32 : decode cX6_ring 32 = .ok (.invokevirtual 196, 3) := by decide +kernel
theorem dX6_ring_35 : decode cX6_ring 35 = .ok (.istore_n 2, 1) := by decide +kernel
theorem dX6_ring_36 : decode cX6_ring 36 = .ok (.iinc 1 1, 3) := by decide +kernel
theorem dX6_ring_39 : decode cX6_ring 39 = .ok (.goto (-26), 3) := by decide +kernel
theorem dX6_ring_42 : decode cX6_ring 42 = .ok (.aload_n 0, 1) := by decide +kernel
theorem dX6_ring_43 : decode cX6_ring 43 = .ok (.getfield 176, 3) := by decide +kernel
theorem dX6_ring_46 : decode cX6_ring 46 = .ok (.iconst (-1), 1) := by decide +kernel
theorem dX6_ring_47 : decode cX6_ring 47 = .ok (.if_icmp .ne 10, 3) := by decide +kernel
theorem dX6_ring_50 : decode cX6_ring 50 = .ok (.aload_n 0, 1) := by decide +kernel
theorem dX6_ring_51 : decode cX6_ring 51 = .ok (.getfield 162, 3) := by decide +kernel
theorem dX6_ring_54 : decode cX6_ring 54 = .ok (.goto 7, 3) := by decide +kernel
theorem dX6_ring_57 : decode cX6_ring 57 = .ok (.aload_n 0, 1) := by decide +kernel
theorem dX6_ring_58 : decode cX6_ring 58 = .ok (.getfield 173, 3) := by decide +kernel
theorem dX6_ring_61 : decode cX6_ring 61 = .ok (.istore_n 3, 1) := by decide +kernel
theorem dX6_ring_62 : decode cX6_ring 62 = .ok (.aload_n 0, 1) := by decide +kernel
theorem dX6_ring_63 : decode cX6_ring 63 = .ok (.iconst 0, 1) := by decide +kernel
theorem dX6_ring_64 : decode cX6_ring 64 = .ok (.putfield 162, 3) := by decide +kernel
theorem dX6_ring_67 : decode cX6_ring 67 = .ok (.aload_n 0, 1) := by decide +kernel
theorem dX6_ring_68 : decode cX6_ring 68 = .ok (.iload_n 2, 1) := by decide +kernel
theorem dX6_ring_69 : decode cX6_ring 69 = .ok (.putfield 199, 3) := by decide +kernel
theorem dX6_ring_72 : decode cX6_ring 72 = .ok (.iload_n 2, 1) := by decide +kernel
theorem dX6_ring_73 : decode cX6_ring 73 = .ok (.ifCond .le 8, 3) := by decide +kernel
theorem dX6_ring_76 : decode cX6_ring 76 = .ok (.bipush (-100), 2) := by decide +kernel
theorem dX6_ring_78 : decode cX6_ring 78 = .ok (.iload_n 3, 1) := by decide +kernel
theorem dX6_ring_79 : decode cX6_ring 79 = .ok (.isub, 1) := by decide +kernel
theorem dX6_ring_80 : decode cX6_ring 80 = .ok (.ireturn, 1) := by decide +kernel
theorem dX6_ring_81 : decode cX6_ring 81 = .ok (.aload_n 0, 1) := by decide +kernel
theorem dX6_ring_82 : decode cX6_ring 82 = .ok (.iload_n 1, 1) := by decide +kernel
theorem dX6_ring_83 : decode cX6_ring 83 = .ok (.putfield 41, 3) := by decide +kernel
theorem dX6_ring_86 : decode cX6_ring 86 = .ok (.aload_n 0, 1) := by decide +kernel
theorem dX6_ring_87 : decode cX6_ring 87 = .ok (.iconst 0, 1) := by decide +kernel
theorem dX6_ring_88 : decode cX6_ring 88 = .ok (.putfield 153, 3) := by decide +kernel
theorem dX6_ring_91 : decode cX6_ring 91 = .ok (.iconst 0, 1) := by decide +kernel
theorem dX6_ring_92 : decode cX6_ring 92 = .ok (.istore 4, 2) := by decide +kernel
theorem dX6_ring_94 : decode cX6_ring 94 = .ok (.iload 4, 2) := by decide +kernel
theorem dX6_ring_96 : decode cX6_ring 96 = .ok (.sipush 168, 3) := by decide +kernel
theorem dX6_ring_99 : decode cX6_ring 99 = .ok (.if_icmp .ge 17, 3) := by decide +kernel
theorem dX6_ring_102 : decode cX6_ring 102 = .ok (.aload_n 0, 1) := by decide +kernel
theorem dX6_ring_103 : decode cX6_ring 103 = .ok (.getfield 16, 3) := by decide +kernel
theorem dX6_ring_106 : decode cX6_ring 106 = .ok (.iload 4, 2) := by decide +kernel
theorem dX6_ring_108 : decode cX6_ring 108 = .ok (.iconst 0, 1) := by decide +kernel
theorem dX6_ring_109 : decode cX6_ring 109 = .ok (.iastore, 1) := by decide +kernel
theorem dX6_ring_110 : decode cX6_ring 110 = .ok (.iinc 4 1, 3) := by decide +kernel
theorem dX6_ring_113 : decode cX6_ring 113 = .ok (.goto (-19), 3) := by decide +kernel
theorem dX6_ring_116 : decode cX6_ring 116 = .ok (.iconst 0, 1) := by decide +kernel
theorem dX6_ring_117 : decode cX6_ring 117 = .ok (.istore 4, 2) := by decide +kernel
theorem dX6_ring_119 : decode cX6_ring 119 = .ok (.iload 4, 2) := by decide +kernel
theorem dX6_ring_121 : decode cX6_ring 121 = .ok (.aload_n 0, 1) := by decide +kernel
theorem dX6_ring_122 : decode cX6_ring 122 = .ok (.getfield 41, 3) := by decide +kernel
theorem dX6_ring_125 : decode cX6_ring 125 = .ok (.if_icmp .ge 37, 3) := by decide +kernel
theorem dX6_ring_128 : decode cX6_ring 128 = .ok (.aload_n 0, 1) := by decide +kernel
theorem dX6_ring_129 : decode cX6_ring 129 = .ok (.getfield 7, 3) := by decide +kernel
theorem dX6_ring_132 : decode cX6_ring 132 = .ok (.iload 4, 2) := by decide +kernel
theorem dX6_ring_134 : decode cX6_ring 134 = .ok (.aload_n 0, 1) := by decide +kernel
theorem dX6_ring_135 : decode cX6_ring 135 = .ok (.getfield 22, 3) := by decide +kernel
theorem dX6_ring_138 : decode cX6_ring 138 = .ok (.iload 4, 2) := by decide +kernel
theorem dX6_ring_140 : decode cX6_ring 140 = .ok (.iaload, 1) := by decide +kernel
theorem dX6_ring_141 : decode cX6_ring 141 = .ok (.iastore, 1) := by decide +kernel
theorem dX6_ring_142 : decode cX6_ring 142 = .ok (.aload_n 0, 1) := by decide +kernel
theorem dX6_ring_143 : decode cX6_ring 143 = .ok (.getfield 13, 3) := by decide +kernel
theorem dX6_ring_146 : decode cX6_ring 146 = .ok (.iload 4, 2) := by decide +kernel
theorem dX6_ring_148 : decode cX6_ring 148 = .ok (.aload_n 0, 1) := by decide +kernel
theorem dX6_ring_149 : decode cX6_ring 149 = .ok (.getfield 25, 3) := by decide +kernel
theorem dX6_ring_152 : decode cX6_ring 152 = .ok (.iload 4, 2) := by decide +kernel
theorem dX6_ring_154 : decode cX6_ring 154 = .ok (.iaload, 1) := by decide +kernel
theorem dX6_ring_155 : decode cX6_ring 155 = .ok (.iastore, 1) := by decide +kernel
theorem dX6_ring_156 : decode cX6_ring 156 = .ok (.iinc 4 1, 3) := by decide +kernel
theorem dX6_ring_159 : decode cX6_ring 159 = .ok (.goto (-40), 3) := by decide +kernel
theorem dX6_ring_162 : decode cX6_ring 162 = .ok (.aload_n 0, 1) := by decide +kernel
theorem dX6_ring_163 : decode cX6_ring 163 = .ok (.invokevirtual 202, 3) := by decide +kernel
theorem dX6_ring_166 : decode cX6_ring 166 = .ok (.aload_n 0, 1) := by decide +kernel
theorem dX6_ring_167 : decode cX6_ring 167 = .ok (.getfield 41, 3) := by decide +kernel
theorem dX6_ring_170 : decode cX6_ring 170 = .ok (.ireturn, 1) := by decide +kernel
theorem dX6_fault_0 : decode cX6_fault 0 = .ok (.aload_n 0, 1) := by decide +kernel
theorem dX6_fault_1 : decode cX6_fault 1 = .ok (.getfield 199, 3) := by decide +kernel
theorem dX6_fault_4 : decode cX6_fault 4 = .ok (.ireturn, 1) := by decide +kernel
theorem dX6_clears_0 : decode cX6_clears 0 = .ok (.iconst 0, 1) := by decide +kernel
theorem dX6_clears_1 : decode cX6_clears 1 = .ok (.istore_n 1, 1) := by decide +kernel
theorem dX6_clears_2 : decode cX6_clears 2 = .ok (.iload_n 1, 1) := by decide +kernel
theorem dX6_clears_3 : decode cX6_clears 3 = .ok (.sipush 168, 3) := by decide +kernel
theorem dX6_clears_6 : decode cX6_clears 6 = .ok (.if_icmp .ge 16, 3) := by decide +kernel
theorem dX6_clears_9 : decode cX6_clears 9 = .ok (.aload_n 0, 1) := by decide +kernel
theorem dX6_clears_10 : decode cX6_clears 10 = .ok (.getfield 16, 3) := by decide +kernel
theorem dX6_clears_13 : decode cX6_clears 13 = .ok (.iload_n 1, 1) := by decide +kernel
theorem dX6_clears_14 : decode cX6_clears 14 = .ok (.iconst 0, 1) := by decide +kernel
theorem dX6_clears_15 : decode cX6_clears 15 = .ok (.iastore, 1) := by decide +kernel
theorem dX6_clears_16 : decode cX6_clears 16 = .ok (.iinc 1 1, 3) := by decide +kernel
theorem dX6_clears_19 : decode cX6_clears 19 = .ok (.goto (-17), 3) := by decide +kernel
theorem dX6_clears_22 : decode cX6_clears 22 = .ok (.iconst 0, 1) := by decide +kernel
theorem dX6_clears_23 : decode cX6_clears 23 = .ok (.istore_n 1, 1) := by decide +kernel
theorem dX6_clears_24 : decode cX6_clears 24 = .ok (.iload_n 1, 1) := by decide +kernel
theorem dX6_clears_25 : decode cX6_clears 25 = .ok (.aload_n 0, 1) := by decide +kernel
theorem dX6_clears_26 : decode cX6_clears 26 = .ok (.getfield 41, 3) := by decide +kernel
theorem dX6_clears_29 : decode cX6_clears 29 = .ok (.if_icmp .ge 46, 3) := by decide +kernel
theorem dX6_clears_32 : decode cX6_clears 32 = .ok (.aload_n 0, 1) := by decide +kernel
theorem dX6_clears_33 : decode cX6_clears 33 = .ok (.iconst 0, 1) := by decide +kernel
theorem dX6_clears_34 : decode cX6_clears 34 = .ok (.iload_n 1, 1) := by decide +kernel
theorem dX6_clears_35 : decode cX6_clears 35 = .ok (.iconst 0, 1) := by decide +kernel
theorem dX6_clears_36 : decode cX6_clears 36 = .ok (.aload_n 0, 1) := by decide +kernel
theorem dX6_clears_37 : decode cX6_clears 37 = .ok (.getfield 13, 3) := by decide +kernel
theorem dX6_clears_40 : decode cX6_clears 40 = .ok (.iload_n 1, 1) := by decide +kernel
theorem dX6_clears_41 : decode cX6_clears 41 = .ok (.iaload, 1) := by decide +kernel
theorem dX6_clears_42 : decode cX6_clears 42 = .ok (.invokevirtual 59, 3) := by decide +kernel
theorem dX6_clears_45 : decode cX6_clears 45 = .ok (.aload_n 0, 1) := by decide +kernel
theorem dX6_clears_46 : decode cX6_clears 46 = .ok (.iconst 0, 1) := by decide +kernel
theorem dX6_clears_47 : decode cX6_clears 47 = .ok (.iload_n 1, 1) := by decide +kernel
theorem dX6_clears_48 : decode cX6_clears 48 = .ok (.iconst 2, 1) := by decide +kernel
theorem dX6_clears_49 : decode cX6_clears 49 = .ok (.iconst (-1), 1) := by decide +kernel
theorem dX6_clears_50 : decode cX6_clears 50 = .ok (.invokevirtual 59, 3) := by decide +kernel
theorem dX6_clears_53 : decode cX6_clears 53 = .ok (.aload_n 0, 1) := by decide +kernel
theorem dX6_clears_54 : decode cX6_clears 54 = .ok (.iconst 0, 1) := by decide +kernel
theorem dX6_clears_55 : decode cX6_clears 55 = .ok (.iload_n 1, 1) := by decide +kernel
theorem dX6_clears_56 : decode cX6_clears 56 = .ok (.iconst 3, 1) := by decide +kernel
theorem dX6_clears_57 : decode cX6_clears 57 = .ok (.iconst (-1), 1) := by decide +kernel
theorem dX6_clears_58 : decode cX6_clears 58 = .ok (.invokevirtual 59, 3) := by decide +kernel
theorem dX6_clears_61 : decode cX6_clears 61 = .ok (.aload_n 0, 1) := by decide +kernel
theorem dX6_clears_62 : decode cX6_clears 62 = .ok (.iconst 0, 1) := by decide +kernel
theorem dX6_clears_63 : decode cX6_clears 63 = .ok (.iload_n 1, 1) := by decide +kernel
theorem dX6_clears_64 : decode cX6_clears 64 = .ok (.iconst 4, 1) := by decide +kernel
theorem dX6_clears_65 : decode cX6_clears 65 = .ok (.iconst (-1), 1) := by decide +kernel
theorem dX6_clears_66 : decode cX6_clears 66 = .ok (.invokevirtual 59, 3) := by decide +kernel
theorem dX6_clears_69 : decode cX6_clears 69 = .ok (.iinc 1 1, 3) := by decide +kernel
theorem dX6_clears_72 : decode cX6_clears 72 = .ok (.goto (-48), 3) := by decide +kernel
theorem dX6_clears_75 : decode cX6_clears 75 = .ok (.return_, 1) := by decide +kernel
theorem dX6_begin_0 : decode cX6_begin 0 = .ok (.iload_n 1, 1) := by decide +kernel
theorem dX6_begin_1 : decode cX6_begin 1 = .ok (.i2l, 1) := by decide +kernel
theorem dX6_begin_2 : decode cX6_begin 2 = .ok (.lconst 1, 1) := by decide +kernel
theorem dX6_begin_3 : decode cX6_begin 3 = .ok (.ldc2_w 205, 3) := by decide +kernel
theorem dX6_begin_6 : decode cX6_begin 6 = .ok (.invokestatic 45, 3) := by decide +kernel
theorem dX6_begin_9 : decode cX6_begin 9 = .ok (.ifCond .eq 27, 3) := by decide +kernel
theorem dX6_begin_12 : decode cX6_begin 12 = .ok (.iload_n 2, 1) := by decide +kernel
theorem dX6_begin_13 : decode cX6_begin 13 = .ok (.i2l, 1) := by decide +kernel
theorem dX6_begin_14 : decode cX6_begin 14 = .ok (.lconst 1, 1) := by decide +kernel
theorem dX6_begin_15 : decode cX6_begin 15 = .ok (.ldc2_w 207, 3) := by decide +kernel
theorem dX6_begin_18 : decode cX6_begin 18 = .ok (.invokestatic 45, 3) := by decide +kernel
theorem dX6_begin_21 : decode cX6_begin 21 = .ok (.ifCond .eq 15, 3) := by decide +kernel
theorem dX6_begin_24 : decode cX6_begin 24 = .ok (.iload_n 3, 1) := by decide +kernel
theorem dX6_begin_25 : decode cX6_begin 25 = .ok (.i2l, 1) := by decide +kernel
theorem dX6_begin_26 : decode cX6_begin 26 = .ok (.lconst 1, 1) := by decide +kernel
theorem dX6_begin_27 : decode cX6_begin 27 = .ok (.ldc2_w 209, 3) := by decide +kernel
theorem dX6_begin_30 : decode cX6_begin 30 = .ok (.invokestatic 45, 3) := by decide +kernel
theorem dX6_begin_33 : decode cX6_begin 33 = .ok (.ifCond .ne 6, 3) := by decide +kernel
theorem dX6_begin_36 : decode cX6_begin 36 = .ok (.ldc 161, 2) := by decide +kernel
theorem dX6_begin_38 : decode cX6_begin 38 = .ok (.ireturn, 1) := by decide +kernel
theorem dX6_begin_39 : decode cX6_begin 39 = .ok (.aload_n 0, 1) := by decide +kernel
theorem dX6_begin_40 : decode cX6_begin 40 = .ok (.getfield 41, 3) := by decide +kernel
theorem dX6_begin_43 : decode cX6_begin 43 = .ok (.ifCond .le 7, 3) := by decide +kernel
theorem dX6_begin_46 : decode cX6_begin 46 = .ok (.iconst 1, 1) := by decide +kernel
theorem dX6_begin_47 : decode cX6_begin 47 = .ok (.goto 4, 3) := by decide +kernel
theorem dX6_begin_50 : decode cX6_begin 50 = .ok (.iconst 0, 1) := by decide +kernel
theorem dX6_begin_51 : decode cX6_begin 51 = .ok (.istore 4, 2) := by decide +kernel
theorem dX6_begin_53 : decode cX6_begin 53 = .ok (.iconst 0, 1) := by decide +kernel
theorem dX6_begin_54 : decode cX6_begin 54 = .ok (.istore 5, 2) := by decide +kernel
theorem dX6_begin_56 : decode cX6_begin 56 = .ok (.iload 5, 2) := by decide +kernel
theorem dX6_begin_58 : decode cX6_begin 58 = .ok (.aload_n 0, 1) := by decide +kernel
theorem dX6_begin_59 : decode cX6_begin 59 = .ok (.getfield 41, 3) := by decide +kernel
theorem dX6_begin_62 : decode cX6_begin 62 = .ok (.if_icmp .ge 42, 3) := by decide +kernel
theorem dX6_begin_65 : decode cX6_begin 65 = .ok (.iload 4, 2) := by decide +kernel
theorem dX6_begin_67 : decode cX6_begin 67 = .ok (.ifCond .eq 28, 3) := by decide +kernel
theorem dX6_begin_70 : decode cX6_begin 70 = .ok (.aload_n 0, 1) := by decide +kernel
theorem dX6_begin_71 : decode cX6_begin 71 = .ok (.getfield 13, 3) := by decide +kernel
theorem dX6_begin_74 : decode cX6_begin 74 = .ok (.iload 5, 2) := by decide +kernel
theorem dX6_begin_76 : decode cX6_begin 76 = .ok (.iaload, 1) := by decide +kernel
theorem dX6_begin_77 : decode cX6_begin 77 = .ok (.aload_n 0, 1) := by decide +kernel
theorem dX6_begin_78 : decode cX6_begin 78 = .ok (.getfield 13, 3) := by decide +kernel
theorem dX6_begin_81 : decode cX6_begin 81 = .ok (.iconst 0, 1) := by decide +kernel
theorem dX6_begin_82 : decode cX6_begin 82 = .ok (.iaload, 1) := by decide +kernel
theorem dX6_begin_83 : decode cX6_begin 83 = .ok (.if_icmp .eq 8, 3) := by decide +kernel
theorem dX6_begin_86 : decode cX6_begin 86 = .ok (.iload_n 1, 1) := by decide +kernel
theorem dX6_begin_87 : decode cX6_begin 87 = .ok (.iconst 3, 1) := by decide +kernel
theorem dX6_begin_88 : decode cX6_begin 88 = .ok (.if_icmp .ge 7, 3) := by decide +kernel
theorem dX6_begin_91 : decode cX6_begin 91 = .ok (.iconst 1, 1) := by decide +kernel
theorem dX6_begin_92 : decode cX6_begin 92 = .ok (.goto 4, 3) := by decide +kernel
theorem dX6_begin_95 : decode cX6_begin 95 = .ok (.iconst 0, 1) := by decide +kernel
theorem dX6_begin_96 : decode cX6_begin 96 = .ok (.istore 4, 2) := by decide +kernel
theorem dX6_begin_98 : decode cX6_begin 98 = .ok (.iinc 5 1, 3) := by decide +kernel
theorem dX6_begin_101 : decode cX6_begin 101 = .ok (.goto (-45), 3) := by decide +kernel
theorem dX6_begin_104 : decode cX6_begin 104 = .ok (.iload 4, 2) := by decide +kernel
theorem dX6_begin_106 : decode cX6_begin 106 = .ok (.ifCond .ne 6, 3) := by decide +kernel
theorem dX6_begin_109 : decode cX6_begin 109 = .ok (.ldc 211, 2) := by decide +kernel
theorem dX6_begin_111 : decode cX6_begin 111 = .ok (.ireturn, 1) := by decide +kernel
theorem dX6_begin_112 : decode cX6_begin 112 = .ok (.aload_n 0, 1) := by decide +kernel
theorem dX6_begin_113 : decode cX6_begin 113 = .ok (.invokevirtual 202, 3) := by decide +kernel
theorem dX6_begin_116 : decode cX6_begin 116 = .ok (.aload_n 0, 1) := by decide +kernel
theorem dX6_begin_117 : decode cX6_begin 117 = .ok (.iconst 0, 1) := by decide +kernel
theorem dX6_begin_118 : decode cX6_begin 118 = .ok (.putfield 153, 3) := by decide +kernel
theorem dX6_begin_121 : decode cX6_begin 121 = .ok (.aload_n 0, 1) := by decide +kernel
theorem dX6_begin_122 : decode cX6_begin 122 = .ok (.getfield 16, 3) := by decide +kernel
theorem dX6_begin_125 : decode cX6_begin 125 = .ok (.iconst 0, 1) := by decide +kernel
theorem dX6_begin_126 : decode cX6_begin 126 = .ok (.iload_n 1, 1) := by decide +kernel
theorem dX6_begin_127 : decode cX6_begin 127 = .ok (.iastore, 1) := by decide +kernel
theorem dX6_begin_128 : decode cX6_begin 128 = .ok (.aload_n 0, 1) := by decide +kernel
theorem dX6_begin_129 : decode cX6_begin 129 = .ok (.getfield 16, 3) := by decide +kernel
theorem dX6_begin_132 : decode cX6_begin 132 = .ok (.iconst 1, 1) := by decide +kernel
theorem dX6_begin_133 : decode cX6_begin 133 = .ok (.iload_n 2, 1) := by decide +kernel
theorem dX6_begin_134 : decode cX6_begin 134 = .ok (.iastore, 1) := by decide +kernel
theorem dX6_begin_135 : decode cX6_begin 135 = .ok (.iconst 0, 1) := by decide +kernel
theorem dX6_begin_136 : decode cX6_begin 136 = .ok (.istore 5, 2) := by decide +kernel
theorem dX6_begin_138 : decode cX6_begin 138 = .ok (.iload 5, 2) := by decide +kernel
theorem dX6_begin_140 : decode cX6_begin 140 = .ok (.aload_n 0, 1) := by decide +kernel
theorem dX6_begin_141 : decode cX6_begin 141 = .ok (.getfield 41, 3) := by decide +kernel
theorem dX6_begin_144 : decode cX6_begin 144 = .ok (.if_icmp .ge 31, 3) := by decide +kernel
theorem dX6_begin_147 : decode cX6_begin 147 = .ok (.aload_n 0, 1) := by decide +kernel
theorem dX6_begin_148 : decode cX6_begin 148 = .ok (.iconst 0, 1) := by decide +kernel
theorem dX6_begin_149 : decode cX6_begin 149 = .ok (.iload 5, 2) := by decide +kernel
theorem dX6_begin_151 : decode cX6_begin 151 = .ok (.bipush 8, 2) := by decide +kernel
theorem dX6_begin_153 : decode cX6_begin 153 = .ok (.iload_n 3, 1) := by decide +kernel
theorem dX6_begin_154 : decode cX6_begin 154 = .ok (.i2l, 1) := by decide +kernel
theorem dX6_begin_155 : decode cX6_begin 155 = .ok (.iload 5, 2) := by decide +kernel
theorem dX6_begin_157 : decode cX6_begin 157 = .ok (.iconst 1, 1) := by decide +kernel
theorem dX6_begin_158 : decode cX6_begin 158 = .ok (.iadd, 1) := by decide +kernel
theorem dX6_begin_159 : decode cX6_begin 159 = .ok (.i2l, 1) := by decide +kernel
theorem dX6_begin_160 : decode cX6_begin 160 = .ok (.lmul, 1) := by decide +kernel
theorem dX6_begin_161 : decode cX6_begin 161 = .ok (.ldc2_w 69, 3) := by decide +kernel
theorem dX6_begin_164 : decode cX6_begin 164 = .ok (.lrem, 1) := by decide +kernel
theorem dX6_begin_165 : decode cX6_begin 165 = .ok (.l2i, 1) := by decide +kernel
theorem dX6_begin_166 : decode cX6_begin 166 = .ok (.invokevirtual 59, 3) := by decide +kernel
theorem dX6_begin_169 : decode cX6_begin 169 = .ok (.iinc 5 1, 3) := by decide +kernel
theorem dX6_begin_172 : decode cX6_begin 172 = .ok (.goto (-34), 3) := by decide +kernel
theorem dX6_begin_175 : decode cX6_begin 175 = .ok (.iconst 1, 1) := by decide +kernel
theorem dX6_begin_176 : decode cX6_begin 176 = .ok (.ireturn, 1) := by decide +kernel
theorem dX6_wake_0 : decode cX6_wake 0 = .ok (.aload_n 0, 1) := by decide +kernel
theorem dX6_wake_1 : decode cX6_wake 1 = .ok (.iload_n 1, 1) := by decide +kernel
theorem dX6_wake_2 : decode cX6_wake 2 = .ok (.invokevirtual 212, 3) := by decide +kernel
theorem dX6_wake_5 : decode cX6_wake 5 = .ok (.ifCond .ne 6, 3) := by decide +kernel
theorem dX6_wake_8 : decode cX6_wake 8 = .ok (.ldc 215, 2) := by decide +kernel
theorem dX6_wake_10 : decode cX6_wake 10 = .ok (.ireturn, 1) := by decide +kernel
theorem dX6_wake_11 : decode cX6_wake 11 = .ok (.aload_n 0, 1) := by decide +kernel
theorem dX6_wake_12 : decode cX6_wake 12 = .ok (.invokevirtual 216, 3) := by decide +kernel
theorem dX6_wake_15 : decode cX6_wake 15 = .ok (.ifCond .eq 13, 3) := by decide +kernel
theorem dX6_wake_18 : decode cX6_wake 18 = .ok (.aload_n 0, 1) := by decide +kernel
theorem dX6_wake_19 : decode cX6_wake 19 = .ok (.iconst 0, 1) := by decide +kernel
theorem dX6_wake_20 : decode cX6_wake 20 = .ok (.iload_n 1, 1) := by decide +kernel
theorem dX6_wake_21 : decode cX6_wake 21 = .ok (.iconst 1, 1) := by decide +kernel
theorem dX6_wake_22 : decode cX6_wake 22 = .ok (.invokevirtual 56, 3) := by decide +kernel
theorem dX6_wake_25 : decode cX6_wake 25 = .ok (.ifCond .eq 6, 3) := by decide +kernel
theorem dX6_wake_28 : decode cX6_wake 28 = .ok (.ldc 211, 2) := by decide +kernel
theorem dX6_wake_30 : decode cX6_wake 30 = .ok (.ireturn, 1) := by decide +kernel
theorem dX6_wake_31 : decode cX6_wake 31 = .ok (.aload_n 0, 1) := by decide +kernel
theorem dX6_wake_32 : decode cX6_wake 32 = .ok (.invokevirtual 220, 3) := by decide +kernel
theorem dX6_wake_35 : decode cX6_wake 35 = .ok (.aload_n 0, 1) := by decide +kernel
theorem dX6_wake_36 : decode cX6_wake 36 = .ok (.getfield 16, 3) := by decide +kernel
theorem dX6_wake_39 : decode cX6_wake 39 = .ok (.iconst 3, 1) := by decide +kernel
theorem dX6_wake_40 : decode cX6_wake 40 = .ok (.iaload, 1) := by decide +kernel
theorem dX6_wake_41 : decode cX6_wake 41 = .ok (.istore_n 2, 1) := by decide +kernel
theorem dX6_wake_42 : decode cX6_wake 42 = .ok (.aload_n 0, 1) := by decide +kernel
theorem dX6_wake_43 : decode cX6_wake 43 = .ok (.iconst 0, 1) := by decide +kernel
theorem dX6_wake_44 : decode cX6_wake 44 = .ok (.iload_n 1, 1) := by decide +kernel
theorem dX6_wake_45 : decode cX6_wake 45 = .ok (.invokevirtual 223, 3) := by decide +kernel
theorem dX6_wake_48 : decode cX6_wake 48 = .ok (.aload_n 0, 1) := by decide +kernel
theorem dX6_wake_49 : decode cX6_wake 49 = .ok (.getfield 16, 3) := by decide +kernel
theorem dX6_wake_52 : decode cX6_wake 52 = .ok (.iconst 3, 1) := by decide +kernel
theorem dX6_wake_53 : decode cX6_wake 53 = .ok (.iaload, 1) := by decide +kernel
theorem dX6_wake_54 : decode cX6_wake 54 = .ok (.iload_n 2, 1) := by decide +kernel
theorem dX6_wake_55 : decode cX6_wake 55 = .ok (.isub, 1) := by decide +kernel
theorem dX6_wake_56 : decode cX6_wake 56 = .ok (.ireturn, 1) := by decide +kernel
theorem dX6_deliver_0 : decode cX6_deliver 0 = .ok (.aload_n 0, 1) := by decide +kernel
theorem dX6_deliver_1 : decode cX6_deliver 1 = .ok (.iload_n 1, 1) := by decide +kernel
theorem dX6_deliver_2 : decode cX6_deliver 2 = .ok (.invokevirtual 226, 3) := by decide +kernel
theorem dX6_deliver_5 : decode cX6_deliver 5 = .ok (.ifCond .ne 6, 3) := by decide +kernel
theorem dX6_deliver_8 : decode cX6_deliver 8 = .ok (.ldc 215, 2) := by decide +kernel
theorem dX6_deliver_10 : decode cX6_deliver 10 = .ok (.ireturn, 1) := by decide +kernel
theorem dX6_deliver_11 : decode cX6_deliver 11 = .ok (.aload_n 0, 1) := by decide +kernel
theorem dX6_deliver_12 : decode cX6_deliver 12 = .ok (.invokevirtual 216, 3) := by decide +kernel
theorem dX6_deliver_15 : decode cX6_deliver 15 = .ok (.ifCond .eq 12, 3) := by decide +kernel
theorem dX6_deliver_18 : decode cX6_deliver 18 = .ok (.aload_n 0, 1) := by decide +kernel
theorem dX6_deliver_19 : decode cX6_deliver 19 = .ok (.iconst 0, 1) := by decide +kernel
theorem dX6_deliver_20 : decode cX6_deliver 20 = .ok (.iload_n 1, 1) := by decide +kernel
theorem dX6_deliver_21 : decode cX6_deliver 21 = .ok (.invokevirtual 133, 3) := by decide +kernel
theorem dX6_deliver_24 : decode cX6_deliver 24 = .ok (.ifCond .ne 6, 3) := by decide +kernel
theorem dX6_deliver_27 : decode cX6_deliver 27 = .ok (.ldc 211, 2) := by decide +kernel
theorem dX6_deliver_29 : decode cX6_deliver 29 = .ok (.ireturn, 1) := by decide +kernel
theorem dX6_deliver_30 : decode cX6_deliver 30 = .ok (.aload_n 0, 1) := by decide +kernel
theorem dX6_deliver_31 : decode cX6_deliver 31 = .ok (.invokevirtual 220, 3) := by decide +kernel
theorem dX6_deliver_34 : decode cX6_deliver 34 = .ok (.aload_n 0, 1) := by decide +kernel
theorem dX6_deliver_35 : decode cX6_deliver 35 = .ok (.iconst 0, 1) := by decide +kernel
theorem dX6_deliver_36 : decode cX6_deliver 36 = .ok (.iload_n 1, 1) := by decide +kernel
theorem dX6_deliver_37 : decode cX6_deliver 37 = .ok (.invokevirtual 150, 3) := by decide +kernel
theorem dX6_deliver_40 : decode cX6_deliver 40 = .ok (.ireturn, 1) := by decide +kernel
theorem dX6_isOrder_0 : decode cX6_isOrder 0 = .ok (.iload_n 0, 1) := by decide +kernel
theorem dX6_isOrder_1 : decode cX6_isOrder 1 = .ok (.i2l, 1) := by decide +kernel
theorem dX6_isOrder_2 : decode cX6_isOrder 2 = .ok (.lconst 0, 1) := by decide +kernel
theorem dX6_isOrder_3 : decode cX6_isOrder 3 = .ok (.ldc2_w 229, 3) := by decide +kernel
theorem dX6_isOrder_6 : decode cX6_isOrder 6 = .ok (.invokestatic 45, 3) := by decide +kernel
theorem dX6_isOrder_9 : decode cX6_isOrder 9 = .ok (.ifCond .eq 19, 3) := by decide +kernel
theorem dX6_isOrder_12 : decode cX6_isOrder 12 = .ok (.iload_n 1, 1) := by decide +kernel
theorem dX6_isOrder_13 : decode cX6_isOrder 13 = .ok (.i2l, 1) := by decide +kernel
theorem dX6_isOrder_14 : decode cX6_isOrder 14 = .ok (.lconst 1, 1) := by decide +kernel
theorem dX6_isOrder_15 : decode cX6_isOrder 15 = .ok (.ldc2_w 209, 3) := by decide +kernel
theorem dX6_isOrder_18 : decode cX6_isOrder 18 = .ok (.invokestatic 45, 3) := by decide +kernel
theorem dX6_isOrder_21 : decode cX6_isOrder 21 = .ok (.ifCond .eq 7, 3) := by decide +kernel
theorem dX6_isOrder_24 : decode cX6_isOrder 24 = .ok (.iconst 1, 1) := by decide +kernel
theorem dX6_isOrder_25 : decode cX6_isOrder 25 = .ok (.goto 4, 3) := by decide +kernel
theorem dX6_isOrder_28 : decode cX6_isOrder 28 = .ok (.iconst 0, 1) := by decide +kernel
theorem dX6_isOrder_29 : decode cX6_isOrder 29 = .ok (.ireturn, 1) := by decide +kernel
theorem dX6_run_0 : decode cX6_run 0 = .ok (.iload_n 1, 1) := by decide +kernel
theorem dX6_run_1 : decode cX6_run 1 = .ok (.iload_n 2, 1) := by decide +kernel
theorem dX6_run_2 : decode cX6_run 2 = .ok (.invokestatic 231, 3) := by decide +kernel
theorem dX6_run_5 : decode cX6_run 5 = .ok (.ifCond .eq 15, 3) := by decide +kernel
theorem dX6_run_8 : decode cX6_run 8 = .ok (.iload_n 3, 1) := by decide +kernel
theorem dX6_run_9 : decode cX6_run 9 = .ok (.i2l, 1) := by decide +kernel
theorem dX6_run_10 : decode cX6_run 10 = .ok (.lconst 0, 1) := by decide +kernel
theorem dX6_run_11 : decode cX6_run 11 = .ok (.ldc2_w 234, 3) := by decide +kernel
theorem dX6_run_14 : decode cX6_run 14 = .ok (.invokestatic 45, 3) := by decide +kernel
theorem dX6_run_17 : decode cX6_run 17 = .ok (.ifCond .ne 6, 3) := by decide +kernel
theorem dX6_run_20 : decode cX6_run 20 = .ok (.ldc 161, 2) := by decide +kernel
theorem dX6_run_22 : decode cX6_run 22 = .ok (.ireturn, 1) := by decide +kernel
theorem dX6_run_23 : decode cX6_run 23 = .ok (.aload_n 0, 1) := by decide +kernel
theorem dX6_run_24 : decode cX6_run 24 = .ok (.invokevirtual 216, 3) := by decide +kernel
theorem dX6_run_27 : decode cX6_run 27 = .ok (.ifCond .ne 6, 3) := by decide +kernel
theorem dX6_run_30 : decode cX6_run 30 = .ok (.ldc 211, 2) := by decide +kernel
theorem dX6_run_32 : decode cX6_run 32 = .ok (.ireturn, 1) := by decide +kernel
theorem dX6_run_33 : decode cX6_run 33 = .ok (.aload_n 0, 1) := by decide +kernel
theorem dX6_run_34 : decode cX6_run 34 = .ok (.iconst 0, 1) := by decide +kernel
theorem dX6_run_35 : decode cX6_run 35 = .ok (.bipush 21, 2) := by decide +kernel
theorem dX6_run_37 : decode cX6_run 37 = .ok (.invokevirtual 156, 3) := by decide +kernel
theorem dX6_run_40 : decode cX6_run 40 = .ok (.aload_n 0, 1) := by decide +kernel
theorem dX6_run_41 : decode cX6_run 41 = .ok (.bipush 21, 2) := by decide +kernel
theorem dX6_run_43 : decode cX6_run 43 = .ok (.iload_n 1, 1) := by decide +kernel
theorem dX6_run_44 : decode cX6_run 44 = .ok (.iload_n 2, 1) := by decide +kernel
theorem dX6_run_45 : decode cX6_run 45 = .ok (.iload_n 3, 1) := by decide +kernel
theorem dX6_run_46 : decode cX6_run 46 = .ok (.invokevirtual 236, 3) := by decide +kernel
theorem dX6_run_49 : decode cX6_run 49 = .ok (.istore 4, 2) := by decide +kernel
theorem dX6_run_51 : decode cX6_run 51 = .ok (.iload 4, 2) := by decide +kernel
theorem dX6_run_53 : decode cX6_run 53 = .ok (.ifCond .le 14, 3) := by decide +kernel
theorem dX6_run_56 : decode cX6_run 56 = .ok (.aload_n 0, 1) := by decide +kernel
theorem dX6_run_57 : decode cX6_run 57 = .ok (.invokevirtual 220, 3) := by decide +kernel
theorem dX6_run_60 : decode cX6_run 60 = .ok (.aload_n 0, 1) := by decide +kernel
theorem dX6_run_61 : decode cX6_run 61 = .ok (.bipush 21, 2) := by decide +kernel
theorem dX6_run_63 : decode cX6_run 63 = .ok (.iconst 0, 1) := by decide +kernel
theorem dX6_run_64 : decode cX6_run 64 = .ok (.invokevirtual 156, 3) := by decide +kernel
theorem dX6_run_67 : decode cX6_run 67 = .ok (.iload 4, 2) := by decide +kernel
theorem dX6_run_69 : decode cX6_run 69 = .ok (.ireturn, 1) := by decide +kernel
theorem dX6_undo_0 : decode cX6_undo 0 = .ok (.aload_n 0, 1) := by decide +kernel
theorem dX6_undo_1 : decode cX6_undo 1 = .ok (.getfield 153, 3) := by decide +kernel
theorem dX6_undo_4 : decode cX6_undo 4 = .ok (.ifCond .ne 6, 3) := by decide +kernel
theorem dX6_undo_7 : decode cX6_undo 7 = .ok (.ldc 211, 2) := by decide +kernel
theorem dX6_undo_9 : decode cX6_undo 9 = .ok (.ireturn, 1) := by decide +kernel
theorem dX6_undo_10 : decode cX6_undo 10 = .ok (.aload_n 0, 1) := by decide +kernel
theorem dX6_undo_11 : decode cX6_undo 11 = .ok (.aload_n 0, 1) := by decide +kernel
theorem dX6_undo_12 : decode cX6_undo 12 = .ok (.getfield 153, 3) := by decide +kernel
theorem dX6_undo_15 : decode cX6_undo 15 = .ok (.iconst 0, 1) := by decide +kernel
theorem dX6_undo_16 : decode cX6_undo 16 = .ok (.invokevirtual 156, 3) := by decide +kernel
theorem dX6_undo_19 : decode cX6_undo 19 = .ok (.aload_n 0, 1) := by decide +kernel
theorem dX6_undo_20 : decode cX6_undo 20 = .ok (.dup, 1) := by decide +kernel
theorem dX6_undo_21 : decode cX6_undo 21 = .ok (.getfield 153, 3) := by decide +kernel
theorem dX6_undo_24 : decode cX6_undo 24 = .ok (.iconst 1, 1) := by decide +kernel
theorem dX6_undo_25 : decode cX6_undo 25 = .ok (.isub, 1) := by decide +kernel
theorem dX6_undo_26 : decode cX6_undo 26 = .ok (.putfield 153, 3) := by decide +kernel
theorem dX6_undo_29 : decode cX6_undo 29 = .ok (.aload_n 0, 1) := by decide +kernel
theorem dX6_undo_30 : decode cX6_undo 30 = .ok (.getfield 153, 3) := by decide +kernel
theorem dX6_undo_33 : decode cX6_undo 33 = .ok (.ireturn, 1) := by decide +kernel
theorem dX6_contender_0 : decode cX6_contender 0 = .ok (.aload_n 0, 1) := by decide +kernel
theorem dX6_contender_1 : decode cX6_contender 1 = .ok (.iload_n 1, 1) := by decide +kernel
theorem dX6_contender_2 : decode cX6_contender 2 = .ok (.invokevirtual 212, 3) := by decide +kernel
theorem dX6_contender_5 : decode cX6_contender 5 = .ok (.ifCond .ne 6, 3) := by decide +kernel
theorem dX6_contender_8 : decode cX6_contender 8 = .ok (.ldc 215, 2) := by decide +kernel
theorem dX6_contender_10 : decode cX6_contender 10 = .ok (.ireturn, 1) := by decide +kernel
theorem dX6_contender_11 : decode cX6_contender 11 = .ok (.aload_n 0, 1) := by decide +kernel
theorem dX6_contender_12 : decode cX6_contender 12 = .ok (.getfield 16, 3) := by decide +kernel
theorem dX6_contender_15 : decode cX6_contender 15 = .ok (.iconst 0, 1) := by decide +kernel
theorem dX6_contender_16 : decode cX6_contender 16 = .ok (.iaload, 1) := by decide +kernel
theorem dX6_contender_17 : decode cX6_contender 17 = .ok (.istore_n 3, 1) := by decide +kernel
theorem dX6_contender_18 : decode cX6_contender 18 = .ok (.iload_n 2, 1) := by decide +kernel
theorem dX6_contender_19 : decode cX6_contender 19 = .ok (.tableswitch 121 0 6 #[41, 48, 56, 64, 72, 80, 88], 41) := by decide +kernel
theorem dX6_contender_60 : decode cX6_contender 60 = .ok (.aload_n 0, 1) := by decide +kernel
theorem dX6_contender_61 : decode cX6_contender 61 = .ok (.getfield 7, 3) := by decide +kernel
theorem dX6_contender_64 : decode cX6_contender 64 = .ok (.iload_n 1, 1) := by decide +kernel
theorem dX6_contender_65 : decode cX6_contender 65 = .ok (.iaload, 1) := by decide +kernel
theorem dX6_contender_66 : decode cX6_contender 66 = .ok (.ireturn, 1) := by decide +kernel
theorem dX6_contender_67 : decode cX6_contender 67 = .ok (.aload_n 0, 1) := by decide +kernel
theorem dX6_contender_68 : decode cX6_contender 68 = .ok (.iconst 0, 1) := by decide +kernel
theorem dX6_contender_69 : decode cX6_contender 69 = .ok (.iload_n 1, 1) := by decide +kernel
theorem dX6_contender_70 : decode cX6_contender 70 = .ok (.iconst 0, 1) := by decide +kernel
theorem dX6_contender_71 : decode cX6_contender 71 = .ok (.invokevirtual 56, 3) := by decide +kernel
theorem dX6_contender_74 : decode cX6_contender 74 = .ok (.ireturn, 1) := by decide +kernel
theorem dX6_contender_75 : decode cX6_contender 75 = .ok (.aload_n 0, 1) := by decide +kernel
theorem dX6_contender_76 : decode cX6_contender 76 = .ok (.iconst 0, 1) := by decide +kernel
theorem dX6_contender_77 : decode cX6_contender 77 = .ok (.iload_n 1, 1) := by decide +kernel
theorem dX6_contender_78 : decode cX6_contender 78 = .ok (.iconst 1, 1) := by decide +kernel
theorem dX6_contender_79 : decode cX6_contender 79 = .ok (.invokevirtual 56, 3) := by decide +kernel
theorem dX6_contender_82 : decode cX6_contender 82 = .ok (.ireturn, 1) := by decide +kernel
theorem dX6_contender_83 : decode cX6_contender 83 = .ok (.aload_n 0, 1) := by decide +kernel
theorem dX6_contender_84 : decode cX6_contender 84 = .ok (.iconst 0, 1) := by decide +kernel
theorem dX6_contender_85 : decode cX6_contender 85 = .ok (.iload_n 1, 1) := by decide +kernel
theorem dX6_contender_86 : decode cX6_contender 86 = .ok (.iconst 2, 1) := by decide +kernel
theorem dX6_contender_87 : decode cX6_contender 87 = .ok (.invokevirtual 56, 3) := by decide +kernel
theorem dX6_contender_90 : decode cX6_contender 90 = .ok (.ireturn, 1) := by decide +kernel
theorem dX6_contender_91 : decode cX6_contender 91 = .ok (.aload_n 0, 1) := by decide +kernel
theorem dX6_contender_92 : decode cX6_contender 92 = .ok (.iconst 0, 1) := by decide +kernel
theorem dX6_contender_93 : decode cX6_contender 93 = .ok (.iload_n 1, 1) := by decide +kernel
theorem dX6_contender_94 : decode cX6_contender 94 = .ok (.iconst 3, 1) := by decide +kernel
theorem dX6_contender_95 : decode cX6_contender 95 = .ok (.invokevirtual 56, 3) := by decide +kernel
theorem dX6_contender_98 : decode cX6_contender 98 = .ok (.ireturn, 1) := by decide +kernel
theorem dX6_contender_99 : decode cX6_contender 99 = .ok (.aload_n 0, 1) := by decide +kernel
theorem dX6_contender_100 : decode cX6_contender 100 = .ok (.iconst 0, 1) := by decide +kernel
theorem dX6_contender_101 : decode cX6_contender 101 = .ok (.iload_n 1, 1) := by decide +kernel
theorem dX6_contender_102 : decode cX6_contender 102 = .ok (.iconst 4, 1) := by decide +kernel
theorem dX6_contender_103 : decode cX6_contender 103 = .ok (.invokevirtual 56, 3) := by decide +kernel
theorem dX6_contender_106 : decode cX6_contender 106 = .ok (.ireturn, 1) := by decide +kernel
theorem dX6_contender_107 : decode cX6_contender 107 = .ok (.iload_n 3, 1) := by decide +kernel
theorem dX6_contender_108 : decode cX6_contender 108 = .ok (.iconst 2, 1) := by decide +kernel
theorem dX6_contender_109 : decode cX6_contender 109 = .ok (.if_icmp .ne 13, 3) := by decide +kernel
theorem dX6_contender_112 : decode cX6_contender 112 = .ok (.aload_n 0, 1) := by decide +kernel
theorem dX6_contender_113 : decode cX6_contender 113 = .ok (.iconst 0, 1) := by decide +kernel
theorem dX6_contender_114 : decode cX6_contender 114 = .ok (.iload_n 1, 1) := by decide +kernel
theorem dX6_contender_115 : decode cX6_contender 115 = .ok (.iconst 5, 1) := by decide +kernel
theorem dX6_contender_116 : decode cX6_contender 116 = .ok (.invokevirtual 56, 3) := by decide +kernel
theorem dX6_contender_119 : decode cX6_contender 119 = .ok (.goto 20, 3) := by decide +kernel
theorem dX6_contender_122 : decode cX6_contender 122 = .ok (.iload_n 3, 1) := by decide +kernel
theorem dX6_contender_123 : decode cX6_contender 123 = .ok (.iconst 3, 1) := by decide +kernel
theorem dX6_contender_124 : decode cX6_contender 124 = .ok (.if_icmp .ne 14, 3) := by decide +kernel
theorem dX6_contender_127 : decode cX6_contender 127 = .ok (.aload_n 0, 1) := by decide +kernel
theorem dX6_contender_128 : decode cX6_contender 128 = .ok (.iconst 0, 1) := by decide +kernel
theorem dX6_contender_129 : decode cX6_contender 129 = .ok (.iload_n 1, 1) := by decide +kernel
theorem dX6_contender_130 : decode cX6_contender 130 = .ok (.bipush 7, 2) := by decide +kernel
theorem dX6_contender_132 : decode cX6_contender 132 = .ok (.invokevirtual 56, 3) := by decide +kernel
theorem dX6_contender_135 : decode cX6_contender 135 = .ok (.goto 4, 3) := by decide +kernel
theorem dX6_contender_138 : decode cX6_contender 138 = .ok (.iconst 0, 1) := by decide +kernel
theorem dX6_contender_139 : decode cX6_contender 139 = .ok (.ireturn, 1) := by decide +kernel
theorem dX6_contender_140 : decode cX6_contender 140 = .ok (.ldc 161, 2) := by decide +kernel
theorem dX6_contender_142 : decode cX6_contender 142 = .ok (.ireturn, 1) := by decide +kernel
theorem dX6_link_0 : decode cX6_link 0 = .ok (.aload_n 0, 1) := by decide +kernel
theorem dX6_link_1 : decode cX6_link 1 = .ok (.iload_n 1, 1) := by decide +kernel
theorem dX6_link_2 : decode cX6_link 2 = .ok (.invokevirtual 226, 3) := by decide +kernel
theorem dX6_link_5 : decode cX6_link 5 = .ok (.ifCond .eq 12, 3) := by decide +kernel
theorem dX6_link_8 : decode cX6_link 8 = .ok (.aload_n 0, 1) := by decide +kernel
theorem dX6_link_9 : decode cX6_link 9 = .ok (.iconst 0, 1) := by decide +kernel
theorem dX6_link_10 : decode cX6_link 10 = .ok (.iload_n 1, 1) := by decide +kernel
theorem dX6_link_11 : decode cX6_link 11 = .ok (.invokevirtual 133, 3) := by decide +kernel
theorem dX6_link_14 : decode cX6_link 14 = .ok (.goto 5, 3) := by decide +kernel
theorem dX6_link_17 : decode cX6_link 17 = .ok (.ldc 215, 2) := by decide +kernel
theorem dX6_link_19 : decode cX6_link 19 = .ok (.ireturn, 1) := by decide +kernel
theorem dX6_letter_0 : decode cX6_letter 0 = .ok (.aload_n 0, 1) := by decide +kernel
theorem dX6_letter_1 : decode cX6_letter 1 = .ok (.iload_n 1, 1) := by decide +kernel
theorem dX6_letter_2 : decode cX6_letter 2 = .ok (.invokevirtual 226, 3) := by decide +kernel
theorem dX6_letter_5 : decode cX6_letter 5 = .ok (.ifCond .eq 21, 3) := by decide +kernel
theorem dX6_letter_8 : decode cX6_letter 8 = .ok (.iload_n 2, 1) := by decide +kernel
theorem dX6_letter_9 : decode cX6_letter 9 = .ok (.i2l, 1) := by decide +kernel
theorem dX6_letter_10 : decode cX6_letter 10 = .ok (.lconst 0, 1) := by decide +kernel
theorem dX6_letter_11 : decode cX6_letter 11 = .ok (.aload_n 0, 1) := by decide +kernel
theorem dX6_letter_12 : decode cX6_letter 12 = .ok (.iconst 0, 1) := by decide +kernel
theorem dX6_letter_13 : decode cX6_letter 13 = .ok (.iload_n 1, 1) := by decide +kernel
theorem dX6_letter_14 : decode cX6_letter 14 = .ok (.invokevirtual 133, 3) := by decide +kernel
theorem dX6_letter_17 : decode cX6_letter 17 = .ok (.iconst 1, 1) := by decide +kernel
theorem dX6_letter_18 : decode cX6_letter 18 = .ok (.isub, 1) := by decide +kernel
theorem dX6_letter_19 : decode cX6_letter 19 = .ok (.i2l, 1) := by decide +kernel
theorem dX6_letter_20 : decode cX6_letter 20 = .ok (.invokestatic 45, 3) := by decide +kernel
theorem dX6_letter_23 : decode cX6_letter 23 = .ok (.ifCond .ne 6, 3) := by decide +kernel
theorem dX6_letter_26 : decode cX6_letter 26 = .ok (.ldc 215, 2) := by decide +kernel
theorem dX6_letter_28 : decode cX6_letter 28 = .ok (.ireturn, 1) := by decide +kernel
theorem dX6_letter_29 : decode cX6_letter 29 = .ok (.iload_n 3, 1) := by decide +kernel
theorem dX6_letter_30 : decode cX6_letter 30 = .ok (.i2l, 1) := by decide +kernel
theorem dX6_letter_31 : decode cX6_letter 31 = .ok (.lconst 0, 1) := by decide +kernel
theorem dX6_letter_32 : decode cX6_letter 32 = .ok (.ldc2_w 205, 3) := by decide +kernel
theorem dX6_letter_35 : decode cX6_letter 35 = .ok (.invokestatic 45, 3) := by decide +kernel
theorem dX6_letter_38 : decode cX6_letter 38 = .ok (.ifCond .eq 25, 3) := by decide +kernel
theorem dX6_letter_41 : decode cX6_letter 41 = .ok (.aload_n 0, 1) := by decide +kernel
theorem dX6_letter_42 : decode cX6_letter 42 = .ok (.getfield 16, 3) := by decide +kernel
theorem dX6_letter_45 : decode cX6_letter 45 = .ok (.iconst 0, 1) := by decide +kernel
theorem dX6_letter_46 : decode cX6_letter 46 = .ok (.aload_n 0, 1) := by decide +kernel
theorem dX6_letter_47 : decode cX6_letter 47 = .ok (.iconst 0, 1) := by decide +kernel
theorem dX6_letter_48 : decode cX6_letter 48 = .ok (.iload_n 1, 1) := by decide +kernel
theorem dX6_letter_49 : decode cX6_letter 49 = .ok (.iload_n 2, 1) := by decide +kernel
theorem dX6_letter_50 : decode cX6_letter 50 = .ok (.invokevirtual 127, 3) := by decide +kernel
theorem dX6_letter_53 : decode cX6_letter 53 = .ok (.iconst 1, 1) := by decide +kernel
theorem dX6_letter_54 : decode cX6_letter 54 = .ok (.iload_n 3, 1) := by decide +kernel
theorem dX6_letter_55 : decode cX6_letter 55 = .ok (.iadd, 1) := by decide +kernel
theorem dX6_letter_56 : decode cX6_letter 56 = .ok (.invokestatic 53, 3) := by decide +kernel
theorem dX6_letter_59 : decode cX6_letter 59 = .ok (.iaload, 1) := by decide +kernel
theorem dX6_letter_60 : decode cX6_letter 60 = .ok (.goto 5, 3) := by decide +kernel
theorem dX6_letter_63 : decode cX6_letter 63 = .ok (.ldc 161, 2) := by decide +kernel
theorem dX6_letter_65 : decode cX6_letter 65 = .ok (.ireturn, 1) := by decide +kernel
theorem dX6_sent_0 : decode cX6_sent 0 = .ok (.iload_n 1, 1) := by decide +kernel
theorem dX6_sent_1 : decode cX6_sent 1 = .ok (.i2l, 1) := by decide +kernel
theorem dX6_sent_2 : decode cX6_sent 2 = .ok (.lconst 0, 1) := by decide +kernel
theorem dX6_sent_3 : decode cX6_sent 3 = .ok (.ldc2_w 240, 3) := by decide +kernel
theorem dX6_sent_6 : decode cX6_sent 6 = .ok (.invokestatic 45, 3) := by decide +kernel
theorem dX6_sent_9 : decode cX6_sent 9 = .ok (.ifCond .eq 14, 3) := by decide +kernel
theorem dX6_sent_12 : decode cX6_sent 12 = .ok (.aload_n 0, 1) := by decide +kernel
theorem dX6_sent_13 : decode cX6_sent 13 = .ok (.getfield 16, 3) := by decide +kernel
theorem dX6_sent_16 : decode cX6_sent 16 = .ok (.iconst 3, 1) := by decide +kernel
theorem dX6_sent_17 : decode cX6_sent 17 = .ok (.iload_n 1, 1) := by decide +kernel
theorem dX6_sent_18 : decode cX6_sent 18 = .ok (.iadd, 1) := by decide +kernel
theorem dX6_sent_19 : decode cX6_sent 19 = .ok (.iaload, 1) := by decide +kernel
theorem dX6_sent_20 : decode cX6_sent 20 = .ok (.goto 5, 3) := by decide +kernel
theorem dX6_sent_23 : decode cX6_sent 23 = .ok (.ldc 161, 2) := by decide +kernel
theorem dX6_sent_25 : decode cX6_sent 25 = .ok (.ireturn, 1) := by decide +kernel
theorem dX6_manyAre_0 : decode cX6_manyAre 0 = .ok (.iconst 0, 1) := by decide +kernel
theorem dX6_manyAre_1 : decode cX6_manyAre 1 = .ok (.istore_n 3, 1) := by decide +kernel
theorem dX6_manyAre_2 : decode cX6_manyAre 2 = .ok (.iconst 0, 1) := by decide +kernel
theorem dX6_manyAre_3 : decode cX6_manyAre 3 = .ok (.istore 4, 2) := by decide +kernel
theorem dX6_manyAre_5 : decode cX6_manyAre 5 = .ok (.iload 4, 2) := by decide +kernel
theorem dX6_manyAre_7 : decode cX6_manyAre 7 = .ok (.aload_n 0, 1) := by decide +kernel
theorem dX6_manyAre_8 : decode cX6_manyAre 8 = .ok (.getfield 41, 3) := by decide +kernel
theorem dX6_manyAre_11 : decode cX6_manyAre 11 = .ok (.if_icmp .ge 29, 3) := by decide +kernel
theorem dX6_manyAre_14 : decode cX6_manyAre 14 = .ok (.iload_n 3, 1) := by decide +kernel
theorem dX6_manyAre_15 : decode cX6_manyAre 15 = .ok (.aload_n 0, 1) := by decide +kernel
theorem dX6_manyAre_16 : decode cX6_manyAre 16 = .ok (.iload_n 1, 1) := by decide +kernel
theorem dX6_manyAre_17 : decode cX6_manyAre 17 = .ok (.iload 4, 2) := by decide +kernel
theorem dX6_manyAre_19 : decode cX6_manyAre 19 = .ok (.iconst 1, 1) := by decide +kernel
theorem dX6_manyAre_20 : decode cX6_manyAre 20 = .ok (.invokevirtual 56, 3) := by decide +kernel
theorem dX6_manyAre_23 : decode cX6_manyAre 23 = .ok (.iload_n 2, 1) := by decide +kernel
theorem dX6_manyAre_24 : decode cX6_manyAre 24 = .ok (.if_icmp .ne 7, 3) := by decide +kernel
theorem dX6_manyAre_27 : decode cX6_manyAre 27 = .ok (.iconst 1, 1) := by decide +kernel
theorem dX6_manyAre_28 : decode cX6_manyAre 28 = .ok (.goto 4, 3) := by decide +kernel
theorem dX6_manyAre_31 : decode cX6_manyAre 31 = .ok (.iconst 0, 1) := by decide +kernel
theorem dX6_manyAre_32 : decode cX6_manyAre 32 = .ok (.iadd, 1) := by decide +kernel
theorem dX6_manyAre_33 : decode cX6_manyAre 33 = .ok (.istore_n 3, 1) := by decide +kernel
theorem dX6_manyAre_34 : decode cX6_manyAre 34 = .ok (.iinc 4 1, 3) := by decide +kernel
theorem dX6_manyAre_37 : decode cX6_manyAre 37 = .ok (.goto (-32), 3) := by decide +kernel
theorem dX6_manyAre_40 : decode cX6_manyAre 40 = .ok (.iload_n 3, 1) := by decide +kernel
theorem dX6_manyAre_41 : decode cX6_manyAre 41 = .ok (.ireturn, 1) := by decide +kernel
theorem dX6_headOf_0 : decode cX6_headOf 0 = .ok (.iconst (-1), 1) := by decide +kernel
theorem dX6_headOf_1 : decode cX6_headOf 1 = .ok (.istore_n 2, 1) := by decide +kernel
theorem dX6_headOf_2 : decode cX6_headOf 2 = .ok (.aload_n 0, 1) := by decide +kernel
theorem dX6_headOf_3 : decode cX6_headOf 3 = .ok (.getfield 41, 3) := by decide +kernel
theorem dX6_headOf_6 : decode cX6_headOf 6 = .ok (.iconst 1, 1) := by decide +kernel
theorem dX6_headOf_7 : decode cX6_headOf 7 = .ok (.isub, 1) := by decide +kernel
theorem dX6_headOf_8 : decode cX6_headOf 8 = .ok (.istore_n 3, 1) := by decide +kernel
theorem dX6_headOf_9 : decode cX6_headOf 9 = .ok (.iload_n 3, 1) := by decide +kernel
theorem dX6_headOf_10 : decode cX6_headOf 10 = .ok (.ifCond .lt 26, 3) := by decide +kernel
theorem dX6_headOf_13 : decode cX6_headOf 13 = .ok (.aload_n 0, 1) := by decide +kernel
theorem dX6_headOf_14 : decode cX6_headOf 14 = .ok (.iload_n 1, 1) := by decide +kernel
theorem dX6_headOf_15 : decode cX6_headOf 15 = .ok (.iload_n 3, 1) := by decide +kernel
theorem dX6_headOf_16 : decode cX6_headOf 16 = .ok (.iconst 1, 1) := by decide +kernel
theorem dX6_headOf_17 : decode cX6_headOf 17 = .ok (.invokevirtual 56, 3) := by decide +kernel
theorem dX6_headOf_20 : decode cX6_headOf 20 = .ok (.iconst 3, 1) := by decide +kernel
theorem dX6_headOf_21 : decode cX6_headOf 21 = .ok (.if_icmp .ne 7, 3) := by decide +kernel
theorem dX6_headOf_24 : decode cX6_headOf 24 = .ok (.iload_n 3, 1) := by decide +kernel
theorem dX6_headOf_25 : decode cX6_headOf 25 = .ok (.goto 4, 3) := by decide +kernel
theorem dX6_headOf_28 : decode cX6_headOf 28 = .ok (.iload_n 2, 1) := by decide +kernel
theorem dX6_headOf_29 : decode cX6_headOf 29 = .ok (.istore_n 2, 1) := by decide +kernel
theorem dX6_headOf_30 : decode cX6_headOf 30 = .ok (.iinc 3 (-1), 3) := by decide +kernel
theorem dX6_headOf_33 : decode cX6_headOf 33 = .ok (.goto (-24), 3) := by decide +kernel
theorem dX6_headOf_36 : decode cX6_headOf 36 = .ok (.iload_n 2, 1) := by decide +kernel
theorem dX6_headOf_37 : decode cX6_headOf 37 = .ok (.ireturn, 1) := by decide +kernel
theorem dX6_would_0 : decode cX6_would 0 = .ok (.iload_n 1, 1) := by decide +kernel
theorem dX6_would_1 : decode cX6_would 1 = .ok (.iload_n 2, 1) := by decide +kernel
theorem dX6_would_2 : decode cX6_would 2 = .ok (.invokestatic 231, 3) := by decide +kernel
theorem dX6_would_5 : decode cX6_would 5 = .ok (.ifCond .eq 15, 3) := by decide +kernel
theorem dX6_would_8 : decode cX6_would 8 = .ok (.iload_n 3, 1) := by decide +kernel
theorem dX6_would_9 : decode cX6_would 9 = .ok (.i2l, 1) := by decide +kernel
theorem dX6_would_10 : decode cX6_would 10 = .ok (.lconst 0, 1) := by decide +kernel
theorem dX6_would_11 : decode cX6_would 11 = .ok (.ldc2_w 205, 3) := by decide +kernel
theorem dX6_would_14 : decode cX6_would 14 = .ok (.invokestatic 45, 3) := by decide +kernel
theorem dX6_would_17 : decode cX6_would 17 = .ok (.ifCond .ne 6, 3) := by decide +kernel
theorem dX6_would_20 : decode cX6_would 20 = .ok (.ldc 161, 2) := by decide +kernel
theorem dX6_would_22 : decode cX6_would 22 = .ok (.ireturn, 1) := by decide +kernel
theorem dX6_would_23 : decode cX6_would 23 = .ok (.aload_n 0, 1) := by decide +kernel
theorem dX6_would_24 : decode cX6_would 24 = .ok (.invokevirtual 216, 3) := by decide +kernel
theorem dX6_would_27 : decode cX6_would 27 = .ok (.ifCond .ne 6, 3) := by decide +kernel
theorem dX6_would_30 : decode cX6_would 30 = .ok (.ldc 211, 2) := by decide +kernel
theorem dX6_would_32 : decode cX6_would 32 = .ok (.ireturn, 1) := by decide +kernel
theorem dX6_would_33 : decode cX6_would 33 = .ok (.aload_n 0, 1) := by decide +kernel
theorem dX6_would_34 : decode cX6_would 34 = .ok (.iconst 0, 1) := by decide +kernel
theorem dX6_would_35 : decode cX6_would 35 = .ok (.bipush 21, 2) := by decide +kernel
theorem dX6_would_37 : decode cX6_would 37 = .ok (.invokevirtual 156, 3) := by decide +kernel
theorem dX6_would_40 : decode cX6_would 40 = .ok (.aload_n 0, 1) := by decide +kernel
theorem dX6_would_41 : decode cX6_would 41 = .ok (.bipush 21, 2) := by decide +kernel
theorem dX6_would_43 : decode cX6_would 43 = .ok (.iload_n 1, 1) := by decide +kernel
theorem dX6_would_44 : decode cX6_would 44 = .ok (.iload_n 2, 1) := by decide +kernel
theorem dX6_would_45 : decode cX6_would 45 = .ok (.sipush 300, 3) := by decide +kernel
theorem dX6_would_48 : decode cX6_would 48 = .ok (.invokevirtual 236, 3) := by decide +kernel
theorem dX6_would_51 : decode cX6_would 51 = .ok (.istore 4, 2) := by decide +kernel
theorem dX6_would_53 : decode cX6_would 53 = .ok (.iload_n 3, 1) := by decide +kernel
theorem dX6_would_54 : decode cX6_would 54 = .ok (.tableswitch 72 0 3 #[30, 33, 49, 56], 30) := by decide +kernel
theorem dX6_would_84 : decode cX6_would 84 = .ok (.iload 4, 2) := by decide +kernel
theorem dX6_would_86 : decode cX6_would 86 = .ok (.ireturn, 1) := by decide +kernel
theorem dX6_would_87 : decode cX6_would 87 = .ok (.aload_n 0, 1) := by decide +kernel
theorem dX6_would_88 : decode cX6_would 88 = .ok (.getfield 16, 3) := by decide +kernel
theorem dX6_would_91 : decode cX6_would 91 = .ok (.sipush 3531, 3) := by decide +kernel
theorem dX6_would_94 : decode cX6_would 94 = .ok (.iaload, 1) := by decide +kernel
theorem dX6_would_95 : decode cX6_would 95 = .ok (.aload_n 0, 1) := by decide +kernel
theorem dX6_would_96 : decode cX6_would 96 = .ok (.getfield 16, 3) := by decide +kernel
theorem dX6_would_99 : decode cX6_would 99 = .ok (.iconst 3, 1) := by decide +kernel
theorem dX6_would_100 : decode cX6_would 100 = .ok (.iaload, 1) := by decide +kernel
theorem dX6_would_101 : decode cX6_would 101 = .ok (.isub, 1) := by decide +kernel
theorem dX6_would_102 : decode cX6_would 102 = .ok (.ireturn, 1) := by decide +kernel
theorem dX6_would_103 : decode cX6_would 103 = .ok (.aload_n 0, 1) := by decide +kernel
theorem dX6_would_104 : decode cX6_would 104 = .ok (.bipush 21, 2) := by decide +kernel
theorem dX6_would_106 : decode cX6_would 106 = .ok (.invokevirtual 242, 3) := by decide +kernel
theorem dX6_would_109 : decode cX6_would 109 = .ok (.ireturn, 1) := by decide +kernel
theorem dX6_would_110 : decode cX6_would 110 = .ok (.aload_n 0, 1) := by decide +kernel
theorem dX6_would_111 : decode cX6_would 111 = .ok (.bipush 21, 2) := by decide +kernel
theorem dX6_would_113 : decode cX6_would 113 = .ok (.iconst 3, 1) := by decide +kernel
theorem dX6_would_114 : decode cX6_would 114 = .ok (.invokevirtual 245, 3) := by decide +kernel
theorem dX6_would_117 : decode cX6_would 117 = .ok (.aload_n 0, 1) := by decide +kernel
theorem dX6_would_118 : decode cX6_would 118 = .ok (.bipush 21, 2) := by decide +kernel
theorem dX6_would_120 : decode cX6_would 120 = .ok (.iconst 4, 1) := by decide +kernel
theorem dX6_would_121 : decode cX6_would 121 = .ok (.invokevirtual 245, 3) := by decide +kernel
theorem dX6_would_124 : decode cX6_would 124 = .ok (.iadd, 1) := by decide +kernel
theorem dX6_would_125 : decode cX6_would 125 = .ok (.ireturn, 1) := by decide +kernel
theorem dX6_would_126 : decode cX6_would 126 = .ok (.aload_n 0, 1) := by decide +kernel
theorem dX6_would_127 : decode cX6_would 127 = .ok (.getfield 16, 3) := by decide +kernel
theorem dX6_would_130 : decode cX6_would 130 = .ok (.sipush 3530, 3) := by decide +kernel
theorem dX6_would_133 : decode cX6_would 133 = .ok (.iaload, 1) := by decide +kernel
theorem dX6_would_134 : decode cX6_would 134 = .ok (.ifCond .ne 7, 3) := by decide +kernel
theorem dX6_would_137 : decode cX6_would 137 = .ok (.iconst 1, 1) := by decide +kernel
theorem dX6_would_138 : decode cX6_would 138 = .ok (.goto 4, 3) := by decide +kernel
theorem dX6_would_141 : decode cX6_would 141 = .ok (.iconst 0, 1) := by decide +kernel
theorem dX6_would_142 : decode cX6_would 142 = .ok (.ireturn, 1) := by decide +kernel
theorem dX6_tallies_0 : decode cX6_tallies 0 = .ok (.aload_n 0, 1) := by decide +kernel
theorem dX6_tallies_1 : decode cX6_tallies 1 = .ok (.getfield 16, 3) := by decide +kernel
theorem dX6_tallies_4 : decode cX6_tallies 4 = .ok (.sipush 168, 3) := by decide +kernel
theorem dX6_tallies_7 : decode cX6_tallies 7 = .ok (.iload_n 1, 1) := by decide +kernel
theorem dX6_tallies_8 : decode cX6_tallies 8 = .ok (.imul, 1) := by decide +kernel
theorem dX6_tallies_9 : decode cX6_tallies 9 = .ok (.iconst 3, 1) := by decide +kernel
theorem dX6_tallies_10 : decode cX6_tallies 10 = .ok (.iadd, 1) := by decide +kernel
theorem dX6_tallies_11 : decode cX6_tallies 11 = .ok (.iaload, 1) := by decide +kernel
theorem dX6_tallies_12 : decode cX6_tallies 12 = .ok (.aload_n 0, 1) := by decide +kernel
theorem dX6_tallies_13 : decode cX6_tallies 13 = .ok (.getfield 16, 3) := by decide +kernel
theorem dX6_tallies_16 : decode cX6_tallies 16 = .ok (.iconst 3, 1) := by decide +kernel
theorem dX6_tallies_17 : decode cX6_tallies 17 = .ok (.iaload, 1) := by decide +kernel
theorem dX6_tallies_18 : decode cX6_tallies 18 = .ok (.isub, 1) := by decide +kernel
theorem dX6_tallies_19 : decode cX6_tallies 19 = .ok (.istore_n 2, 1) := by decide +kernel
theorem dX6_tallies_20 : decode cX6_tallies 20 = .ok (.aload_n 0, 1) := by decide +kernel
theorem dX6_tallies_21 : decode cX6_tallies 21 = .ok (.aload_n 0, 1) := by decide +kernel
theorem dX6_tallies_22 : decode cX6_tallies 22 = .ok (.getfield 248, 3) := by decide +kernel
theorem dX6_tallies_25 : decode cX6_tallies 25 = .ok (.ifCond .eq 11, 3) := by decide +kernel
theorem dX6_tallies_28 : decode cX6_tallies 28 = .ok (.iload_n 2, 1) := by decide +kernel
theorem dX6_tallies_29 : decode cX6_tallies 29 = .ok (.aload_n 0, 1) := by decide +kernel
theorem dX6_tallies_30 : decode cX6_tallies 30 = .ok (.getfield 251, 3) := by decide +kernel
theorem dX6_tallies_33 : decode cX6_tallies 33 = .ok (.if_icmp .ge 7, 3) := by decide +kernel
theorem dX6_tallies_36 : decode cX6_tallies 36 = .ok (.iload_n 2, 1) := by decide +kernel
theorem dX6_tallies_37 : decode cX6_tallies 37 = .ok (.goto 7, 3) := by decide +kernel
theorem dX6_tallies_40 : decode cX6_tallies 40 = .ok (.aload_n 0, 1) := by decide +kernel
theorem dX6_tallies_41 : decode cX6_tallies 41 = .ok (.getfield 251, 3) := by decide +kernel
theorem dX6_tallies_44 : decode cX6_tallies 44 = .ok (.putfield 251, 3) := by decide +kernel
theorem dX6_tallies_47 : decode cX6_tallies 47 = .ok (.aload_n 0, 1) := by decide +kernel
theorem dX6_tallies_48 : decode cX6_tallies 48 = .ok (.iload_n 2, 1) := by decide +kernel
theorem dX6_tallies_49 : decode cX6_tallies 49 = .ok (.aload_n 0, 1) := by decide +kernel
theorem dX6_tallies_50 : decode cX6_tallies 50 = .ok (.getfield 254, 3) := by decide +kernel
theorem dX6_tallies_53 : decode cX6_tallies 53 = .ok (.if_icmp .le 7, 3) := by decide +kernel
theorem dX6_tallies_56 : decode cX6_tallies 56 = .ok (.iload_n 2, 1) := by decide +kernel
theorem dX6_tallies_57 : decode cX6_tallies 57 = .ok (.goto 7, 3) := by decide +kernel
theorem dX6_tallies_60 : decode cX6_tallies 60 = .ok (.aload_n 0, 1) := by decide +kernel
theorem dX6_tallies_61 : decode cX6_tallies 61 = .ok (.getfield 254, 3) := by decide +kernel
theorem dX6_tallies_64 : decode cX6_tallies 64 = .ok (.putfield 254, 3) := by decide +kernel
theorem dX6_tallies_67 : decode cX6_tallies 67 = .ok (.aload_n 0, 1) := by decide +kernel
theorem dX6_tallies_68 : decode cX6_tallies 68 = .ok (.dup, 1) := by decide +kernel
theorem dX6_tallies_69 : decode cX6_tallies 69 = .ok (.getfield 257, 3) := by decide +kernel
theorem dX6_tallies_72 : decode cX6_tallies 72 = .ok (.aload_n 0, 1) := by decide +kernel
theorem dX6_tallies_73 : decode cX6_tallies 73 = .ok (.iload_n 1, 1) := by decide +kernel
theorem dX6_tallies_74 : decode cX6_tallies 74 = .ok (.invokevirtual 242, 3) := by decide +kernel
theorem dX6_tallies_77 : decode cX6_tallies 77 = .ok (.iconst (-1), 1) := by decide +kernel
theorem dX6_tallies_78 : decode cX6_tallies 78 = .ok (.if_icmp .ne 7, 3) := by decide +kernel
theorem dX6_tallies_81 : decode cX6_tallies 81 = .ok (.iconst 0, 1) := by decide +kernel
theorem dX6_tallies_82 : decode cX6_tallies 82 = .ok (.goto 4, 3) := by decide +kernel
theorem dX6_tallies_85 : decode cX6_tallies 85 = .ok (.iconst 1, 1) := by decide +kernel
theorem dX6_tallies_86 : decode cX6_tallies 86 = .ok (.iadd, 1) := by decide +kernel
theorem dX6_tallies_87 : decode cX6_tallies 87 = .ok (.putfield 257, 3) := by decide +kernel
theorem dX6_tallies_90 : decode cX6_tallies 90 = .ok (.aload_n 0, 1) := by decide +kernel
theorem dX6_tallies_91 : decode cX6_tallies 91 = .ok (.dup, 1) := by decide +kernel
theorem dX6_tallies_92 : decode cX6_tallies 92 = .ok (.getfield 248, 3) := by decide +kernel
theorem dX6_tallies_95 : decode cX6_tallies 95 = .ok (.iconst 1, 1) := by decide +kernel
theorem dX6_tallies_96 : decode cX6_tallies 96 = .ok (.iadd, 1) := by decide +kernel
theorem dX6_tallies_97 : decode cX6_tallies 97 = .ok (.putfield 248, 3) := by decide +kernel
theorem dX6_tallies_100 : decode cX6_tallies 100 = .ok (.return_, 1) := by decide +kernel
theorem dX6_tries_0 : decode cX6_tries 0 = .ok (.aload_n 0, 1) := by decide +kernel
theorem dX6_tries_1 : decode cX6_tries 1 = .ok (.iconst 0, 1) := by decide +kernel
theorem dX6_tries_2 : decode cX6_tries 2 = .ok (.bipush 21, 2) := by decide +kernel
theorem dX6_tries_4 : decode cX6_tries 4 = .ok (.invokevirtual 156, 3) := by decide +kernel
theorem dX6_tries_7 : decode cX6_tries 7 = .ok (.iconst 0, 1) := by decide +kernel
theorem dX6_tries_8 : decode cX6_tries 8 = .ok (.istore_n 2, 1) := by decide +kernel
theorem dX6_tries_9 : decode cX6_tries 9 = .ok (.aload_n 0, 1) := by decide +kernel
theorem dX6_tries_10 : decode cX6_tries 10 = .ok (.getfield 28, 3) := by decide +kernel
theorem dX6_tries_13 : decode cX6_tries 13 = .ok (.iconst 0, 1) := by decide +kernel
theorem dX6_tries_14 : decode cX6_tries 14 = .ok (.iconst 0, 1) := by decide +kernel
theorem dX6_tries_15 : decode cX6_tries 15 = .ok (.iastore, 1) := by decide +kernel
theorem dX6_tries_16 : decode cX6_tries 16 = .ok (.iload_n 2, 1) := by decide +kernel
theorem dX6_tries_17 : decode cX6_tries 17 = .ok (.ifCond .lt 159, 3) := by decide +kernel
theorem dX6_tries_20 : decode cX6_tries 20 = .ok (.bipush 21, 2) := by decide +kernel
theorem dX6_tries_22 : decode cX6_tries 22 = .ok (.iload_n 2, 1) := by decide +kernel
theorem dX6_tries_23 : decode cX6_tries 23 = .ok (.iadd, 1) := by decide +kernel
theorem dX6_tries_24 : decode cX6_tries 24 = .ok (.istore_n 3, 1) := by decide +kernel
theorem dX6_tries_25 : decode cX6_tries 25 = .ok (.aload_n 0, 1) := by decide +kernel
theorem dX6_tries_26 : decode cX6_tries 26 = .ok (.getfield 28, 3) := by decide +kernel
theorem dX6_tries_29 : decode cX6_tries 29 = .ok (.iload_n 2, 1) := by decide +kernel
theorem dX6_tries_30 : decode cX6_tries 30 = .ok (.iaload, 1) := by decide +kernel
theorem dX6_tries_31 : decode cX6_tries 31 = .ok (.istore 4, 2) := by decide +kernel
theorem dX6_tries_33 : decode cX6_tries 33 = .ok (.iload_n 2, 1) := by decide +kernel
theorem dX6_tries_34 : decode cX6_tries 34 = .ok (.iload_n 1, 1) := by decide +kernel
theorem dX6_tries_35 : decode cX6_tries 35 = .ok (.if_icmp .eq 18, 3) := by decide +kernel
theorem dX6_tries_38 : decode cX6_tries 38 = .ok (.aload_n 0, 1) := by decide +kernel
theorem dX6_tries_39 : decode cX6_tries 39 = .ok (.getfield 16, 3) := by decide +kernel
theorem dX6_tries_42 : decode cX6_tries 42 = .ok (.sipush 168, 3) := by decide +kernel
theorem dX6_tries_45 : decode cX6_tries 45 = .ok (.iload_n 3, 1) := by decide +kernel
theorem dX6_tries_46 : decode cX6_tries 46 = .ok (.imul, 1) := by decide +kernel
theorem dX6_tries_47 : decode cX6_tries 47 = .ok (.iconst 2, 1) := by decide +kernel
theorem dX6_tries_48 : decode cX6_tries 48 = .ok (.iadd, 1) := by decide +kernel
theorem dX6_tries_49 : decode cX6_tries 49 = .ok (.iaload, 1) := by decide +kernel
theorem dX6_tries_50 : decode cX6_tries 50 = .ok (.ifCond .ne 7, 3) := by decide +kernel
theorem dX6_tries_53 : decode cX6_tries 53 = .ok (.iconst 1, 1) := by decide +kernel
theorem dX6_tries_54 : decode cX6_tries 54 = .ok (.goto 4, 3) := by decide +kernel
theorem dX6_tries_57 : decode cX6_tries 57 = .ok (.iconst 0, 1) := by decide +kernel
theorem dX6_tries_58 : decode cX6_tries 58 = .ok (.istore 5, 2) := by decide +kernel
theorem dX6_tries_60 : decode cX6_tries 60 = .ok (.iload 5, 2) := by decide +kernel
theorem dX6_tries_62 : decode cX6_tries 62 = .ok (.ifCond .eq 8, 3) := by decide +kernel
theorem dX6_tries_65 : decode cX6_tries 65 = .ok (.aload_n 0, 1) := by decide +kernel
theorem dX6_tries_66 : decode cX6_tries 66 = .ok (.iload_n 3, 1) := by decide +kernel
theorem dX6_tries_67 : decode cX6_tries 67 = .ok (.invokevirtual 260, 3) := by decide +kernel
theorem dX6_tries_70 : decode cX6_tries 70 = .ok (.iload 5, 2) := by decide +kernel
theorem dX6_tries_72 : decode cX6_tries 72 = .ok (.ifCond .ne 30, 3) := by decide +kernel
theorem dX6_tries_75 : decode cX6_tries 75 = .ok (.iload 4, 2) := by decide +kernel
theorem dX6_tries_77 : decode cX6_tries 77 = .ok (.iconst 2, 1) := by decide +kernel
theorem dX6_tries_78 : decode cX6_tries 78 = .ok (.aload_n 0, 1) := by decide +kernel
theorem dX6_tries_79 : decode cX6_tries 79 = .ok (.getfield 41, 3) := by decide +kernel
theorem dX6_tries_82 : decode cX6_tries 82 = .ok (.imul, 1) := by decide +kernel
theorem dX6_tries_83 : decode cX6_tries 83 = .ok (.if_icmp .ge 19, 3) := by decide +kernel
theorem dX6_tries_86 : decode cX6_tries 86 = .ok (.aload_n 0, 1) := by decide +kernel
theorem dX6_tries_87 : decode cX6_tries 87 = .ok (.iload_n 3, 1) := by decide +kernel
theorem dX6_tries_88 : decode cX6_tries 88 = .ok (.iload 4, 2) := by decide +kernel
theorem dX6_tries_90 : decode cX6_tries 90 = .ok (.invokevirtual 133, 3) := by decide +kernel
theorem dX6_tries_93 : decode cX6_tries 93 = .ok (.ifCond .ne 9, 3) := by decide +kernel
theorem dX6_tries_96 : decode cX6_tries 96 = .ok (.iinc 4 1, 3) := by decide +kernel
theorem dX6_tries_99 : decode cX6_tries 99 = .ok (.goto (-29), 3) := by decide +kernel
theorem dX6_tries_102 : decode cX6_tries 102 = .ok (.iload 5, 2) := by decide +kernel
theorem dX6_tries_104 : decode cX6_tries 104 = .ok (.ifCond .ne 14, 3) := by decide +kernel
theorem dX6_tries_107 : decode cX6_tries 107 = .ok (.iload 4, 2) := by decide +kernel
theorem dX6_tries_109 : decode cX6_tries 109 = .ok (.iconst 2, 1) := by decide +kernel
theorem dX6_tries_110 : decode cX6_tries 110 = .ok (.aload_n 0, 1) := by decide +kernel
theorem dX6_tries_111 : decode cX6_tries 111 = .ok (.getfield 41, 3) := by decide +kernel
theorem dX6_tries_114 : decode cX6_tries 114 = .ok (.imul, 1) := by decide +kernel
theorem dX6_tries_115 : decode cX6_tries 115 = .ok (.if_icmp .ne 9, 3) := by decide +kernel
theorem dX6_tries_118 : decode cX6_tries 118 = .ok (.iinc 2 (-1), 3) := by decide +kernel
theorem dX6_tries_121 : decode cX6_tries 121 = .ok (.goto 52, 3) := by decide +kernel
theorem dX6_tries_124 : decode cX6_tries 124 = .ok (.aload_n 0, 1) := by decide +kernel
theorem dX6_tries_125 : decode cX6_tries 125 = .ok (.getfield 28, 3) := by decide +kernel
theorem dX6_tries_128 : decode cX6_tries 128 = .ok (.iload_n 2, 1) := by decide +kernel
theorem dX6_tries_129 : decode cX6_tries 129 = .ok (.iload 4, 2) := by decide +kernel
theorem dX6_tries_131 : decode cX6_tries 131 = .ok (.iconst 1, 1) := by decide +kernel
theorem dX6_tries_132 : decode cX6_tries 132 = .ok (.iadd, 1) := by decide +kernel
theorem dX6_tries_133 : decode cX6_tries 133 = .ok (.iastore, 1) := by decide +kernel
theorem dX6_tries_134 : decode cX6_tries 134 = .ok (.aload_n 0, 1) := by decide +kernel
theorem dX6_tries_135 : decode cX6_tries 135 = .ok (.iload_n 3, 1) := by decide +kernel
theorem dX6_tries_136 : decode cX6_tries 136 = .ok (.iload_n 3, 1) := by decide +kernel
theorem dX6_tries_137 : decode cX6_tries 137 = .ok (.iconst 1, 1) := by decide +kernel
theorem dX6_tries_138 : decode cX6_tries 138 = .ok (.iadd, 1) := by decide +kernel
theorem dX6_tries_139 : decode cX6_tries 139 = .ok (.invokevirtual 156, 3) := by decide +kernel
theorem dX6_tries_142 : decode cX6_tries 142 = .ok (.aload_n 0, 1) := by decide +kernel
theorem dX6_tries_143 : decode cX6_tries 143 = .ok (.iload_n 3, 1) := by decide +kernel
theorem dX6_tries_144 : decode cX6_tries 144 = .ok (.iconst 1, 1) := by decide +kernel
theorem dX6_tries_145 : decode cX6_tries 145 = .ok (.iadd, 1) := by decide +kernel
theorem dX6_tries_146 : decode cX6_tries 146 = .ok (.iload 4, 2) := by decide +kernel
theorem dX6_tries_148 : decode cX6_tries 148 = .ok (.invokevirtual 150, 3) := by decide +kernel
theorem dX6_tries_151 : decode cX6_tries 151 = .ok (.istore 6, 2) := by decide +kernel
theorem dX6_tries_153 : decode cX6_tries 153 = .ok (.iload_n 2, 1) := by decide +kernel
theorem dX6_tries_154 : decode cX6_tries 154 = .ok (.iload 6, 2) := by decide +kernel
theorem dX6_tries_156 : decode cX6_tries 156 = .ok (.ifCond .le 7, 3) := by decide +kernel
theorem dX6_tries_159 : decode cX6_tries 159 = .ok (.iconst 1, 1) := by decide +kernel
theorem dX6_tries_160 : decode cX6_tries 160 = .ok (.goto 4, 3) := by decide +kernel
theorem dX6_tries_163 : decode cX6_tries 163 = .ok (.iconst 0, 1) := by decide +kernel
theorem dX6_tries_164 : decode cX6_tries 164 = .ok (.iadd, 1) := by decide +kernel
theorem dX6_tries_165 : decode cX6_tries 165 = .ok (.istore_n 2, 1) := by decide +kernel
theorem dX6_tries_166 : decode cX6_tries 166 = .ok (.aload_n 0, 1) := by decide +kernel
theorem dX6_tries_167 : decode cX6_tries 167 = .ok (.getfield 28, 3) := by decide +kernel
theorem dX6_tries_170 : decode cX6_tries 170 = .ok (.iload_n 2, 1) := by decide +kernel
theorem dX6_tries_171 : decode cX6_tries 171 = .ok (.iconst 0, 1) := by decide +kernel
theorem dX6_tries_172 : decode cX6_tries 172 = .ok (.iastore, 1) := by decide +kernel
theorem dX6_tries_173 : decode cX6_tries 173 = .ok (.goto (-157), 3) := by decide +kernel
theorem dX6_tries_176 : decode cX6_tries 176 = .ok (.return_, 1) := by decide +kernel
theorem dX6_foresee_0 : decode cX6_foresee 0 = .ok (.iload_n 1, 1) := by decide +kernel
theorem dX6_foresee_1 : decode cX6_foresee 1 = .ok (.i2l, 1) := by decide +kernel
theorem dX6_foresee_2 : decode cX6_foresee 2 = .ok (.lconst 1, 1) := by decide +kernel
theorem dX6_foresee_3 : decode cX6_foresee 3 = .ok (.ldc2_w 229, 3) := by decide +kernel
theorem dX6_foresee_6 : decode cX6_foresee 6 = .ok (.invokestatic 45, 3) := by decide +kernel
theorem dX6_foresee_9 : decode cX6_foresee 9 = .ok (.ifCond .eq 15, 3) := by decide +kernel
theorem dX6_foresee_12 : decode cX6_foresee 12 = .ok (.iload_n 2, 1) := by decide +kernel
theorem dX6_foresee_13 : decode cX6_foresee 13 = .ok (.i2l, 1) := by decide +kernel
theorem dX6_foresee_14 : decode cX6_foresee 14 = .ok (.lconst 0, 1) := by decide +kernel
theorem dX6_foresee_15 : decode cX6_foresee 15 = .ok (.ldc2_w 229, 3) := by decide +kernel
theorem dX6_foresee_18 : decode cX6_foresee 18 = .ok (.invokestatic 45, 3) := by decide +kernel
theorem dX6_foresee_21 : decode cX6_foresee 21 = .ok (.ifCond .ne 6, 3) := by decide +kernel
theorem dX6_foresee_24 : decode cX6_foresee 24 = .ok (.ldc 161, 2) := by decide +kernel
theorem dX6_foresee_26 : decode cX6_foresee 26 = .ok (.ireturn, 1) := by decide +kernel
theorem dX6_foresee_27 : decode cX6_foresee 27 = .ok (.aload_n 0, 1) := by decide +kernel
theorem dX6_foresee_28 : decode cX6_foresee 28 = .ok (.invokevirtual 216, 3) := by decide +kernel
theorem dX6_foresee_31 : decode cX6_foresee 31 = .ok (.ifCond .ne 6, 3) := by decide +kernel
theorem dX6_foresee_34 : decode cX6_foresee 34 = .ok (.ldc 211, 2) := by decide +kernel
theorem dX6_foresee_36 : decode cX6_foresee 36 = .ok (.ireturn, 1) := by decide +kernel
theorem dX6_foresee_37 : decode cX6_foresee 37 = .ok (.aload_n 0, 1) := by decide +kernel
theorem dX6_foresee_38 : decode cX6_foresee 38 = .ok (.iconst 0, 1) := by decide +kernel
theorem dX6_foresee_39 : decode cX6_foresee 39 = .ok (.invokevirtual 136, 3) := by decide +kernel
theorem dX6_foresee_42 : decode cX6_foresee 42 = .ok (.bipush 6, 2) := by decide +kernel
theorem dX6_foresee_44 : decode cX6_foresee 44 = .ok (.if_icmp .le 6, 3) := by decide +kernel
theorem dX6_foresee_47 : decode cX6_foresee 47 = .ok (.ldc 165, 2) := by decide +kernel
theorem dX6_foresee_49 : decode cX6_foresee 49 = .ok (.ireturn, 1) := by decide +kernel
theorem dX6_foresee_50 : decode cX6_foresee 50 = .ok (.aload_n 0, 1) := by decide +kernel
theorem dX6_foresee_51 : decode cX6_foresee 51 = .ok (.iconst 0, 1) := by decide +kernel
theorem dX6_foresee_52 : decode cX6_foresee 52 = .ok (.putfield 251, 3) := by decide +kernel
theorem dX6_foresee_55 : decode cX6_foresee 55 = .ok (.aload_n 0, 1) := by decide +kernel
theorem dX6_foresee_56 : decode cX6_foresee 56 = .ok (.iconst 0, 1) := by decide +kernel
theorem dX6_foresee_57 : decode cX6_foresee 57 = .ok (.putfield 254, 3) := by decide +kernel
theorem dX6_foresee_60 : decode cX6_foresee 60 = .ok (.aload_n 0, 1) := by decide +kernel
theorem dX6_foresee_61 : decode cX6_foresee 61 = .ok (.iconst 0, 1) := by decide +kernel
theorem dX6_foresee_62 : decode cX6_foresee 62 = .ok (.putfield 257, 3) := by decide +kernel
theorem dX6_foresee_65 : decode cX6_foresee 65 = .ok (.aload_n 0, 1) := by decide +kernel
theorem dX6_foresee_66 : decode cX6_foresee 66 = .ok (.iconst 0, 1) := by decide +kernel
theorem dX6_foresee_67 : decode cX6_foresee 67 = .ok (.putfield 248, 3) := by decide +kernel
theorem dX6_foresee_70 : decode cX6_foresee 70 = .ok (.aload_n 0, 1) := by decide +kernel
theorem dX6_foresee_71 : decode cX6_foresee 71 = .ok (.iload_n 1, 1) := by decide +kernel
theorem dX6_foresee_72 : decode cX6_foresee 72 = .ok (.invokevirtual 263, 3) := by decide +kernel
theorem dX6_foresee_75 : decode cX6_foresee 75 = .ok (.iload_n 2, 1) := by decide +kernel
theorem dX6_foresee_76 : decode cX6_foresee 76 = .ok (.ifCond .ne 10, 3) := by decide +kernel
theorem dX6_foresee_79 : decode cX6_foresee 79 = .ok (.aload_n 0, 1) := by decide +kernel
theorem dX6_foresee_80 : decode cX6_foresee 80 = .ok (.getfield 251, 3) := by decide +kernel
theorem dX6_foresee_83 : decode cX6_foresee 83 = .ok (.goto 31, 3) := by decide +kernel
theorem dX6_foresee_86 : decode cX6_foresee 86 = .ok (.iload_n 2, 1) := by decide +kernel
theorem dX6_foresee_87 : decode cX6_foresee 87 = .ok (.iconst 1, 1) := by decide +kernel
theorem dX6_foresee_88 : decode cX6_foresee 88 = .ok (.if_icmp .ne 10, 3) := by decide +kernel
theorem dX6_foresee_91 : decode cX6_foresee 91 = .ok (.aload_n 0, 1) := by decide +kernel
theorem dX6_foresee_92 : decode cX6_foresee 92 = .ok (.getfield 254, 3) := by decide +kernel
theorem dX6_foresee_95 : decode cX6_foresee 95 = .ok (.goto 19, 3) := by decide +kernel
theorem dX6_foresee_98 : decode cX6_foresee 98 = .ok (.iload_n 2, 1) := by decide +kernel
theorem dX6_foresee_99 : decode cX6_foresee 99 = .ok (.iconst 2, 1) := by decide +kernel
theorem dX6_foresee_100 : decode cX6_foresee 100 = .ok (.if_icmp .ne 10, 3) := by decide +kernel
theorem dX6_foresee_103 : decode cX6_foresee 103 = .ok (.aload_n 0, 1) := by decide +kernel
theorem dX6_foresee_104 : decode cX6_foresee 104 = .ok (.getfield 257, 3) := by decide +kernel
theorem dX6_foresee_107 : decode cX6_foresee 107 = .ok (.goto 7, 3) := by decide +kernel
theorem dX6_foresee_110 : decode cX6_foresee 110 = .ok (.aload_n 0, 1) := by decide +kernel
theorem dX6_foresee_111 : decode cX6_foresee 111 = .ok (.getfield 248, 3) := by decide +kernel
theorem dX6_foresee_114 : decode cX6_foresee 114 = .ok (.ireturn, 1) := by decide +kernel
theorem dX6_letters_0 : decode cX6_letters 0 = .ok (.iconst 0, 1) := by decide +kernel
theorem dX6_letters_1 : decode cX6_letters 1 = .ok (.istore_n 1, 1) := by decide +kernel
theorem dX6_letters_2 : decode cX6_letters 2 = .ok (.iconst 0, 1) := by decide +kernel
theorem dX6_letters_3 : decode cX6_letters 3 = .ok (.istore_n 2, 1) := by decide +kernel
theorem dX6_letters_4 : decode cX6_letters 4 = .ok (.iload_n 2, 1) := by decide +kernel
theorem dX6_letters_5 : decode cX6_letters 5 = .ok (.aload_n 0, 1) := by decide +kernel
theorem dX6_letters_6 : decode cX6_letters 6 = .ok (.getfield 41, 3) := by decide +kernel
theorem dX6_letters_9 : decode cX6_letters 9 = .ok (.if_icmp .ge 51, 3) := by decide +kernel
theorem dX6_letters_12 : decode cX6_letters 12 = .ok (.iconst 1, 1) := by decide +kernel
theorem dX6_letters_13 : decode cX6_letters 13 = .ok (.istore_n 3, 1) := by decide +kernel
theorem dX6_letters_14 : decode cX6_letters 14 = .ok (.iload_n 3, 1) := by decide +kernel
theorem dX6_letters_15 : decode cX6_letters 15 = .ok (.aload_n 0, 1) := by decide +kernel
theorem dX6_letters_16 : decode cX6_letters 16 = .ok (.getfield 41, 3) := by decide +kernel
theorem dX6_letters_19 : decode cX6_letters 19 = .ok (.if_icmp .ge 31, 3) := by decide +kernel
theorem dX6_letters_22 : decode cX6_letters 22 = .ok (.aload_n 0, 1) := by decide +kernel
theorem dX6_letters_23 : decode cX6_letters 23 = .ok (.getfield 31, 3) := by decide +kernel
theorem dX6_letters_26 : decode cX6_letters 26 = .ok (.iload_n 2, 1) := by decide +kernel
theorem dX6_letters_27 : decode cX6_letters 27 = .ok (.iload_n 3, 1) := by decide +kernel
theorem dX6_letters_28 : decode cX6_letters 28 = .ok (.iadd, 1) := by decide +kernel
theorem dX6_letters_29 : decode cX6_letters 29 = .ok (.aload_n 0, 1) := by decide +kernel
theorem dX6_letters_30 : decode cX6_letters 30 = .ok (.getfield 41, 3) := by decide +kernel
theorem dX6_letters_33 : decode cX6_letters 33 = .ok (.irem, 1) := by decide +kernel
theorem dX6_letters_34 : decode cX6_letters 34 = .ok (.iaload, 1) := by decide +kernel
theorem dX6_letters_35 : decode cX6_letters 35 = .ok (.aload_n 0, 1) := by decide +kernel
theorem dX6_letters_36 : decode cX6_letters 36 = .ok (.getfield 31, 3) := by decide +kernel
theorem dX6_letters_39 : decode cX6_letters 39 = .ok (.iload_n 2, 1) := by decide +kernel
theorem dX6_letters_40 : decode cX6_letters 40 = .ok (.iaload, 1) := by decide +kernel
theorem dX6_letters_41 : decode cX6_letters 41 = .ok (.if_icmp .ge 9, 3) := by decide +kernel
theorem dX6_letters_44 : decode cX6_letters 44 = .ok (.iinc 3 1, 3) := by decide +kernel
theorem dX6_letters_47 : decode cX6_letters 47 = .ok (.goto (-33), 3) := by decide +kernel
theorem dX6_letters_50 : decode cX6_letters 50 = .ok (.iload_n 1, 1) := by decide +kernel
theorem dX6_letters_51 : decode cX6_letters 51 = .ok (.iload_n 3, 1) := by decide +kernel
theorem dX6_letters_52 : decode cX6_letters 52 = .ok (.iadd, 1) := by decide +kernel
theorem dX6_letters_53 : decode cX6_letters 53 = .ok (.istore_n 1, 1) := by decide +kernel
theorem dX6_letters_54 : decode cX6_letters 54 = .ok (.iinc 2 1, 3) := by decide +kernel
theorem dX6_letters_57 : decode cX6_letters 57 = .ok (.goto (-53), 3) := by decide +kernel
theorem dX6_letters_60 : decode cX6_letters 60 = .ok (.iload_n 1, 1) := by decide +kernel
theorem dX6_letters_61 : decode cX6_letters 61 = .ok (.ireturn, 1) := by decide +kernel
theorem dX6_nextSeats_0 : decode cX6_nextSeats 0 = .ok (.aload_n 0, 1) := by decide +kernel
theorem dX6_nextSeats_1 : decode cX6_nextSeats 1 = .ok (.getfield 41, 3) := by decide +kernel
theorem dX6_nextSeats_4 : decode cX6_nextSeats 4 = .ok (.iconst 2, 1) := by decide +kernel
theorem dX6_nextSeats_5 : decode cX6_nextSeats 5 = .ok (.isub, 1) := by decide +kernel
theorem dX6_nextSeats_6 : decode cX6_nextSeats 6 = .ok (.istore_n 1, 1) := by decide +kernel
theorem dX6_nextSeats_7 : decode cX6_nextSeats 7 = .ok (.iload_n 1, 1) := by decide +kernel
theorem dX6_nextSeats_8 : decode cX6_nextSeats 8 = .ok (.ifCond .lt 26, 3) := by decide +kernel
theorem dX6_nextSeats_11 : decode cX6_nextSeats 11 = .ok (.aload_n 0, 1) := by decide +kernel
theorem dX6_nextSeats_12 : decode cX6_nextSeats 12 = .ok (.getfield 31, 3) := by decide +kernel
theorem dX6_nextSeats_15 : decode cX6_nextSeats 15 = .ok (.iload_n 1, 1) := by decide +kernel
theorem dX6_nextSeats_16 : decode cX6_nextSeats 16 = .ok (.iaload, 1) := by decide +kernel
theorem dX6_nextSeats_17 : decode cX6_nextSeats 17 = .ok (.aload_n 0, 1) := by decide +kernel
theorem dX6_nextSeats_18 : decode cX6_nextSeats 18 = .ok (.getfield 31, 3) := by decide +kernel
theorem dX6_nextSeats_21 : decode cX6_nextSeats 21 = .ok (.iload_n 1, 1) := by decide +kernel
theorem dX6_nextSeats_22 : decode cX6_nextSeats 22 = .ok (.iconst 1, 1) := by decide +kernel
theorem dX6_nextSeats_23 : decode cX6_nextSeats 23 = .ok (.iadd, 1) := by decide +kernel
theorem dX6_nextSeats_24 : decode cX6_nextSeats 24 = .ok (.iaload, 1) := by decide +kernel
theorem dX6_nextSeats_25 : decode cX6_nextSeats 25 = .ok (.if_icmp .le 9, 3) := by decide +kernel
theorem dX6_nextSeats_28 : decode cX6_nextSeats 28 = .ok (.iinc 1 (-1), 3) := by decide +kernel
theorem dX6_nextSeats_31 : decode cX6_nextSeats 31 = .ok (.goto (-24), 3) := by decide +kernel
theorem dX6_nextSeats_34 : decode cX6_nextSeats 34 = .ok (.iload_n 1, 1) := by decide +kernel
theorem dX6_nextSeats_35 : decode cX6_nextSeats 35 = .ok (.ifCond .ge 5, 3) := by decide +kernel
theorem dX6_nextSeats_38 : decode cX6_nextSeats 38 = .ok (.iconst 0, 1) := by decide +kernel
theorem dX6_nextSeats_39 : decode cX6_nextSeats 39 = .ok (.ireturn, 1) := by decide +kernel
theorem dX6_nextSeats_40 : decode cX6_nextSeats 40 = .ok (.aload_n 0, 1) := by decide +kernel
theorem dX6_nextSeats_41 : decode cX6_nextSeats 41 = .ok (.getfield 41, 3) := by decide +kernel
theorem dX6_nextSeats_44 : decode cX6_nextSeats 44 = .ok (.iconst 1, 1) := by decide +kernel
theorem dX6_nextSeats_45 : decode cX6_nextSeats 45 = .ok (.isub, 1) := by decide +kernel
theorem dX6_nextSeats_46 : decode cX6_nextSeats 46 = .ok (.istore_n 2, 1) := by decide +kernel
theorem dX6_nextSeats_47 : decode cX6_nextSeats 47 = .ok (.aload_n 0, 1) := by decide +kernel
theorem dX6_nextSeats_48 : decode cX6_nextSeats 48 = .ok (.getfield 31, 3) := by decide +kernel
theorem dX6_nextSeats_51 : decode cX6_nextSeats 51 = .ok (.iload_n 2, 1) := by decide +kernel
theorem dX6_nextSeats_52 : decode cX6_nextSeats 52 = .ok (.iaload, 1) := by decide +kernel
theorem dX6_nextSeats_53 : decode cX6_nextSeats 53 = .ok (.aload_n 0, 1) := by decide +kernel
theorem dX6_nextSeats_54 : decode cX6_nextSeats 54 = .ok (.getfield 31, 3) := by decide +kernel
theorem dX6_nextSeats_57 : decode cX6_nextSeats 57 = .ok (.iload_n 1, 1) := by decide +kernel
theorem dX6_nextSeats_58 : decode cX6_nextSeats 58 = .ok (.iaload, 1) := by decide +kernel
theorem dX6_nextSeats_59 : decode cX6_nextSeats 59 = .ok (.if_icmp .ge 9, 3) := by decide +kernel
theorem dX6_nextSeats_62 : decode cX6_nextSeats 62 = .ok (.iinc 2 (-1), 3) := by decide +kernel
theorem dX6_nextSeats_65 : decode cX6_nextSeats 65 = .ok (.goto (-18), 3) := by decide +kernel
theorem dX6_nextSeats_68 : decode cX6_nextSeats 68 = .ok (.aload_n 0, 1) := by decide +kernel
theorem dX6_nextSeats_69 : decode cX6_nextSeats 69 = .ok (.getfield 31, 3) := by decide +kernel
theorem dX6_nextSeats_72 : decode cX6_nextSeats 72 = .ok (.iload_n 1, 1) := by decide +kernel
theorem dX6_nextSeats_73 : decode cX6_nextSeats 73 = .ok (.iaload, 1) := by decide +kernel
theorem dX6_nextSeats_74 : decode cX6_nextSeats 74 = .ok (.istore_n 3, 1) := by decide +kernel
theorem dX6_nextSeats_75 : decode cX6_nextSeats 75 = .ok (.aload_n 0, 1) := by decide +kernel
theorem dX6_nextSeats_76 : decode cX6_nextSeats 76 = .ok (.getfield 31, 3) := by decide +kernel
theorem dX6_nextSeats_79 : decode cX6_nextSeats 79 = .ok (.iload_n 1, 1) := by decide +kernel
theorem dX6_nextSeats_80 : decode cX6_nextSeats 80 = .ok (.aload_n 0, 1) := by decide +kernel
theorem dX6_nextSeats_81 : decode cX6_nextSeats 81 = .ok (.getfield 31, 3) := by decide +kernel
theorem dX6_nextSeats_84 : decode cX6_nextSeats 84 = .ok (.iload_n 2, 1) := by decide +kernel
theorem dX6_nextSeats_85 : decode cX6_nextSeats 85 = .ok (.iaload, 1) := by decide +kernel
theorem dX6_nextSeats_86 : decode cX6_nextSeats 86 = .ok (.iastore, 1) := by decide +kernel
theorem dX6_nextSeats_87 : decode cX6_nextSeats 87 = .ok (.aload_n 0, 1) := by decide +kernel
theorem dX6_nextSeats_88 : decode cX6_nextSeats 88 = .ok (.getfield 31, 3) := by decide +kernel
theorem dX6_nextSeats_91 : decode cX6_nextSeats 91 = .ok (.iload_n 2, 1) := by decide +kernel
theorem dX6_nextSeats_92 : decode cX6_nextSeats 92 = .ok (.iload_n 3, 1) := by decide +kernel
theorem dX6_nextSeats_93 : decode cX6_nextSeats 93 = .ok (.iastore, 1) := by decide +kernel
theorem dX6_nextSeats_94 : decode cX6_nextSeats 94 = .ok (.iconst 1, 1) := by decide +kernel
theorem dX6_nextSeats_95 : decode cX6_nextSeats 95 = .ok (.istore 4, 2) := by decide +kernel
theorem dX6_nextSeats_97 : decode cX6_nextSeats 97 = .ok (.iload_n 1, 1) := by decide +kernel
theorem dX6_nextSeats_98 : decode cX6_nextSeats 98 = .ok (.iload 4, 2) := by decide +kernel
theorem dX6_nextSeats_100 : decode cX6_nextSeats 100 = .ok (.iadd, 1) := by decide +kernel
theorem dX6_nextSeats_101 : decode cX6_nextSeats 101 = .ok (.aload_n 0, 1) := by decide +kernel
theorem dX6_nextSeats_102 : decode cX6_nextSeats 102 = .ok (.getfield 41, 3) := by decide +kernel
theorem dX6_nextSeats_105 : decode cX6_nextSeats 105 = .ok (.iload 4, 2) := by decide +kernel
theorem dX6_nextSeats_107 : decode cX6_nextSeats 107 = .ok (.isub, 1) := by decide +kernel
theorem dX6_nextSeats_108 : decode cX6_nextSeats 108 = .ok (.if_icmp .ge 53, 3) := by decide +kernel
theorem dX6_nextSeats_111 : decode cX6_nextSeats 111 = .ok (.aload_n 0, 1) := by decide +kernel
theorem dX6_nextSeats_112 : decode cX6_nextSeats 112 = .ok (.getfield 31, 3) := by decide +kernel
theorem dX6_nextSeats_115 : decode cX6_nextSeats 115 = .ok (.iload_n 1, 1) := by decide +kernel
theorem dX6_nextSeats_116 : decode cX6_nextSeats 116 = .ok (.iload 4, 2) := by decide +kernel
theorem dX6_nextSeats_118 : decode cX6_nextSeats 118 = .ok (.iadd, 1) := by decide +kernel
theorem dX6_nextSeats_119 : decode cX6_nextSeats 119 = .ok (.iaload, 1) := by decide +kernel
theorem dX6_nextSeats_120 : decode cX6_nextSeats 120 = .ok (.istore_n 3, 1) := by decide +kernel
theorem dX6_nextSeats_121 : decode cX6_nextSeats 121 = .ok (.aload_n 0, 1) := by decide +kernel
theorem dX6_nextSeats_122 : decode cX6_nextSeats 122 = .ok (.getfield 31, 3) := by decide +kernel
theorem dX6_nextSeats_125 : decode cX6_nextSeats 125 = .ok (.iload_n 1, 1) := by decide +kernel
theorem dX6_nextSeats_126 : decode cX6_nextSeats 126 = .ok (.iload 4, 2) := by decide +kernel
theorem dX6_nextSeats_128 : decode cX6_nextSeats 128 = .ok (.iadd, 1) := by decide +kernel
theorem dX6_nextSeats_129 : decode cX6_nextSeats 129 = .ok (.aload_n 0, 1) := by decide +kernel
theorem dX6_nextSeats_130 : decode cX6_nextSeats 130 = .ok (.getfield 31, 3) := by decide +kernel
theorem dX6_nextSeats_133 : decode cX6_nextSeats 133 = .ok (.aload_n 0, 1) := by decide +kernel
theorem dX6_nextSeats_134 : decode cX6_nextSeats 134 = .ok (.getfield 41, 3) := by decide +kernel
theorem dX6_nextSeats_137 : decode cX6_nextSeats 137 = .ok (.iload 4, 2) := by decide +kernel
theorem dX6_nextSeats_139 : decode cX6_nextSeats 139 = .ok (.isub, 1) := by decide +kernel
theorem dX6_nextSeats_140 : decode cX6_nextSeats 140 = .ok (.iaload, 1) := by decide +kernel
theorem dX6_nextSeats_141 : decode cX6_nextSeats 141 = .ok (.iastore, 1) := by decide +kernel
theorem dX6_nextSeats_142 : decode cX6_nextSeats 142 = .ok (.aload_n 0, 1) := by decide +kernel
theorem dX6_nextSeats_143 : decode cX6_nextSeats 143 = .ok (.getfield 31, 3) := by decide +kernel
theorem dX6_nextSeats_146 : decode cX6_nextSeats 146 = .ok (.aload_n 0, 1) := by decide +kernel
theorem dX6_nextSeats_147 : decode cX6_nextSeats 147 = .ok (.getfield 41, 3) := by decide +kernel
theorem dX6_nextSeats_150 : decode cX6_nextSeats 150 = .ok (.iload 4, 2) := by decide +kernel
theorem dX6_nextSeats_152 : decode cX6_nextSeats 152 = .ok (.isub, 1) := by decide +kernel
theorem dX6_nextSeats_153 : decode cX6_nextSeats 153 = .ok (.iload_n 3, 1) := by decide +kernel
theorem dX6_nextSeats_154 : decode cX6_nextSeats 154 = .ok (.iastore, 1) := by decide +kernel
theorem dX6_nextSeats_155 : decode cX6_nextSeats 155 = .ok (.iinc 4 1, 3) := by decide +kernel
theorem dX6_nextSeats_158 : decode cX6_nextSeats 158 = .ok (.goto (-61), 3) := by decide +kernel
theorem dX6_nextSeats_161 : decode cX6_nextSeats 161 = .ok (.iconst 1, 1) := by decide +kernel
theorem dX6_nextSeats_162 : decode cX6_nextSeats 162 = .ok (.ireturn, 1) := by decide +kernel
theorem dX6_commonOf_0 : decode cX6_commonOf 0 = .ok (.lload_n 0, 1) := by decide +kernel
theorem dX6_commonOf_1 : decode cX6_commonOf 1 = .ok (.lstore 4, 2) := by decide +kernel
theorem dX6_commonOf_3 : decode cX6_commonOf 3 = .ok (.lload_n 2, 1) := by decide +kernel
theorem dX6_commonOf_4 : decode cX6_commonOf 4 = .ok (.lstore 6, 2) := by decide +kernel
theorem dX6_commonOf_6 : decode cX6_commonOf 6 = .ok (.lload 6, 2) := by decide +kernel
theorem dX6_commonOf_8 : decode cX6_commonOf 8 = .ok (.lconst 0, 1) := by decide +kernel
theorem dX6_commonOf_9 : decode cX6_commonOf 9 = .ok (.lcmp, 1) := by decide +kernel
theorem dX6_commonOf_10 : decode cX6_commonOf 10 = .ok (.ifCond .eq 21, 3) := by decide +kernel
theorem dX6_commonOf_13 : decode cX6_commonOf 13 = .ok (.lload 4, 2) := by decide +kernel
theorem dX6_commonOf_15 : decode cX6_commonOf 15 = .ok (.lload 6, 2) := by decide +kernel
theorem dX6_commonOf_17 : decode cX6_commonOf 17 = .ok (.lrem, 1) := by decide +kernel
theorem dX6_commonOf_18 : decode cX6_commonOf 18 = .ok (.lstore 8, 2) := by decide +kernel
theorem dX6_commonOf_20 : decode cX6_commonOf 20 = .ok (.lload 6, 2) := by decide +kernel
theorem dX6_commonOf_22 : decode cX6_commonOf 22 = .ok (.lstore 4, 2) := by decide +kernel
theorem dX6_commonOf_24 : decode cX6_commonOf 24 = .ok (.lload 8, 2) := by decide +kernel
theorem dX6_commonOf_26 : decode cX6_commonOf 26 = .ok (.lstore 6, 2) := by decide +kernel
theorem dX6_commonOf_28 : decode cX6_commonOf 28 = .ok (.goto (-22), 3) := by decide +kernel
theorem dX6_commonOf_31 : decode cX6_commonOf 31 = .ok (.lload 4, 2) := by decide +kernel
theorem dX6_commonOf_33 : decode cX6_commonOf 33 = .ok (.lreturn, 1) := by decide +kernel
theorem dX6_sit_0 : decode cX6_sit 0 = .ok (.iload_n 1, 1) := by decide +kernel
theorem dX6_sit_1 : decode cX6_sit 1 = .ok (.i2l, 1) := by decide +kernel
theorem dX6_sit_2 : decode cX6_sit 2 = .ok (.lconst 0, 1) := by decide +kernel
theorem dX6_sit_3 : decode cX6_sit 3 = .ok (.ldc2_w 229, 3) := by decide +kernel
theorem dX6_sit_6 : decode cX6_sit 6 = .ok (.invokestatic 45, 3) := by decide +kernel
theorem dX6_sit_9 : decode cX6_sit 9 = .ok (.ifCond .ne 6, 3) := by decide +kernel
theorem dX6_sit_12 : decode cX6_sit 12 = .ok (.ldc 161, 2) := by decide +kernel
theorem dX6_sit_14 : decode cX6_sit 14 = .ok (.ireturn, 1) := by decide +kernel
theorem dX6_sit_15 : decode cX6_sit 15 = .ok (.aload_n 0, 1) := by decide +kernel
theorem dX6_sit_16 : decode cX6_sit 16 = .ok (.getfield 41, 3) := by decide +kernel
theorem dX6_sit_19 : decode cX6_sit 19 = .ok (.ifCond .ne 6, 3) := by decide +kernel
theorem dX6_sit_22 : decode cX6_sit 22 = .ok (.ldc 211, 2) := by decide +kernel
theorem dX6_sit_24 : decode cX6_sit 24 = .ok (.ireturn, 1) := by decide +kernel
theorem dX6_sit_25 : decode cX6_sit 25 = .ok (.iconst 0, 1) := by decide +kernel
theorem dX6_sit_26 : decode cX6_sit 26 = .ok (.istore_n 2, 1) := by decide +kernel
theorem dX6_sit_27 : decode cX6_sit 27 = .ok (.iload_n 2, 1) := by decide +kernel
theorem dX6_sit_28 : decode cX6_sit 28 = .ok (.aload_n 0, 1) := by decide +kernel
theorem dX6_sit_29 : decode cX6_sit 29 = .ok (.getfield 41, 3) := by decide +kernel
theorem dX6_sit_32 : decode cX6_sit 32 = .ok (.if_icmp .ge 16, 3) := by decide +kernel
theorem dX6_sit_35 : decode cX6_sit 35 = .ok (.aload_n 0, 1) := by decide +kernel
theorem dX6_sit_36 : decode cX6_sit 36 = .ok (.getfield 31, 3) := by decide +kernel
theorem dX6_sit_39 : decode cX6_sit 39 = .ok (.iload_n 2, 1) := by decide +kernel
theorem dX6_sit_40 : decode cX6_sit 40 = .ok (.iload_n 2, 1) := by decide +kernel
theorem dX6_sit_41 : decode cX6_sit 41 = .ok (.iastore, 1) := by decide +kernel
theorem dX6_sit_42 : decode cX6_sit 42 = .ok (.iinc 2 1, 3) := by decide +kernel
theorem dX6_sit_45 : decode cX6_sit 45 = .ok (.goto (-18), 3) := by decide +kernel
theorem dX6_sit_48 : decode cX6_sit 48 = .ok (.sipush 1000, 3) := by decide +kernel
theorem dX6_sit_51 : decode cX6_sit 51 = .ok (.istore_n 2, 1) := by decide +kernel
theorem dX6_sit_52 : decode cX6_sit 52 = .ok (.iconst 0, 1) := by decide +kernel
theorem dX6_sit_53 : decode cX6_sit 53 = .ok (.istore_n 3, 1) := by decide +kernel
theorem dX6_sit_54 : decode cX6_sit 54 = .ok (.iconst 0, 1) := by decide +kernel
theorem dX6_sit_55 : decode cX6_sit 55 = .ok (.istore 4, 2) := by decide +kernel
theorem dX6_sit_57 : decode cX6_sit 57 = .ok (.iconst 0, 1) := by decide +kernel
theorem dX6_sit_58 : decode cX6_sit 58 = .ok (.istore 5, 2) := by decide +kernel
theorem dX6_sit_60 : decode cX6_sit 60 = .ok (.iconst 1, 1) := by decide +kernel
theorem dX6_sit_61 : decode cX6_sit 61 = .ok (.istore 6, 2) := by decide +kernel
theorem dX6_sit_63 : decode cX6_sit 63 = .ok (.iload 6, 2) := by decide +kernel
theorem dX6_sit_65 : decode cX6_sit 65 = .ok (.ifCond .eq 54, 3) := by decide +kernel
theorem dX6_sit_68 : decode cX6_sit 68 = .ok (.aload_n 0, 1) := by decide +kernel
theorem dX6_sit_69 : decode cX6_sit 69 = .ok (.invokevirtual 266, 3) := by decide +kernel
theorem dX6_sit_72 : decode cX6_sit 72 = .ok (.istore 7, 2) := by decide +kernel
theorem dX6_sit_74 : decode cX6_sit 74 = .ok (.iload 7, 2) := by decide +kernel
theorem dX6_sit_76 : decode cX6_sit 76 = .ok (.iload_n 2, 1) := by decide +kernel
theorem dX6_sit_77 : decode cX6_sit 77 = .ok (.if_icmp .ge 8, 3) := by decide +kernel
theorem dX6_sit_80 : decode cX6_sit 80 = .ok (.iload 7, 2) := by decide +kernel
theorem dX6_sit_82 : decode cX6_sit 82 = .ok (.goto 4, 3) := by decide +kernel
theorem dX6_sit_85 : decode cX6_sit 85 = .ok (.iload_n 2, 1) := by decide +kernel
theorem dX6_sit_86 : decode cX6_sit 86 = .ok (.istore_n 2, 1) := by decide +kernel
theorem dX6_sit_87 : decode cX6_sit 87 = .ok (.iload 7, 2) := by decide +kernel
theorem dX6_sit_89 : decode cX6_sit 89 = .ok (.iload_n 3, 1) := by decide +kernel
theorem dX6_sit_90 : decode cX6_sit 90 = .ok (.if_icmp .le 8, 3) := by decide +kernel
theorem dX6_sit_93 : decode cX6_sit 93 = .ok (.iload 7, 2) := by decide +kernel
theorem dX6_sit_95 : decode cX6_sit 95 = .ok (.goto 4, 3) := by decide +kernel
theorem dX6_sit_98 : decode cX6_sit 98 = .ok (.iload_n 3, 1) := by decide +kernel
theorem dX6_sit_99 : decode cX6_sit 99 = .ok (.istore_n 3, 1) := by decide +kernel
theorem dX6_sit_100 : decode cX6_sit 100 = .ok (.iload 4, 2) := by decide +kernel
theorem dX6_sit_102 : decode cX6_sit 102 = .ok (.iload 7, 2) := by decide +kernel
theorem dX6_sit_104 : decode cX6_sit 104 = .ok (.iadd, 1) := by decide +kernel
theorem dX6_sit_105 : decode cX6_sit 105 = .ok (.istore 4, 2) := by decide +kernel
theorem dX6_sit_107 : decode cX6_sit 107 = .ok (.iinc 5 1, 3) := by decide +kernel
theorem dX6_sit_110 : decode cX6_sit 110 = .ok (.aload_n 0, 1) := by decide +kernel
theorem dX6_sit_111 : decode cX6_sit 111 = .ok (.invokevirtual 270, 3) := by decide +kernel
theorem dX6_sit_114 : decode cX6_sit 114 = .ok (.istore 6, 2) := by decide +kernel
theorem dX6_sit_116 : decode cX6_sit 116 = .ok (.goto (-53), 3) := by decide +kernel
theorem dX6_sit_119 : decode cX6_sit 119 = .ok (.iload 4, 2) := by decide +kernel
theorem dX6_sit_121 : decode cX6_sit 121 = .ok (.i2l, 1) := by decide +kernel
theorem dX6_sit_122 : decode cX6_sit 122 = .ok (.iload 5, 2) := by decide +kernel
theorem dX6_sit_124 : decode cX6_sit 124 = .ok (.i2l, 1) := by decide +kernel
theorem dX6_sit_125 : decode cX6_sit 125 = .ok (.invokestatic 273, 3) := by decide +kernel
theorem dX6_sit_128 : decode cX6_sit 128 = .ok (.l2i, 1) := by decide +kernel
theorem dX6_sit_129 : decode cX6_sit 129 = .ok (.istore 7, 2) := by decide +kernel
theorem dX6_sit_131 : decode cX6_sit 131 = .ok (.iload_n 1, 1) := by decide +kernel
theorem dX6_sit_132 : decode cX6_sit 132 = .ok (.ifCond .ne 7, 3) := by decide +kernel
theorem dX6_sit_135 : decode cX6_sit 135 = .ok (.iload_n 2, 1) := by decide +kernel
theorem dX6_sit_136 : decode cX6_sit 136 = .ok (.goto 30, 3) := by decide +kernel
theorem dX6_sit_139 : decode cX6_sit 139 = .ok (.iload_n 1, 1) := by decide +kernel
theorem dX6_sit_140 : decode cX6_sit 140 = .ok (.iconst 1, 1) := by decide +kernel
theorem dX6_sit_141 : decode cX6_sit 141 = .ok (.if_icmp .ne 7, 3) := by decide +kernel
theorem dX6_sit_144 : decode cX6_sit 144 = .ok (.iload_n 3, 1) := by decide +kernel
theorem dX6_sit_145 : decode cX6_sit 145 = .ok (.goto 21, 3) := by decide +kernel
theorem dX6_sit_148 : decode cX6_sit 148 = .ok (.iload_n 1, 1) := by decide +kernel
theorem dX6_sit_149 : decode cX6_sit 149 = .ok (.iconst 2, 1) := by decide +kernel
theorem dX6_sit_150 : decode cX6_sit 150 = .ok (.if_icmp .ne 11, 3) := by decide +kernel
theorem dX6_sit_153 : decode cX6_sit 153 = .ok (.iload 4, 2) := by decide +kernel
theorem dX6_sit_155 : decode cX6_sit 155 = .ok (.iload 7, 2) := by decide +kernel
theorem dX6_sit_157 : decode cX6_sit 157 = .ok (.idiv, 1) := by decide +kernel
theorem dX6_sit_158 : decode cX6_sit 158 = .ok (.goto 8, 3) := by decide +kernel
theorem dX6_sit_161 : decode cX6_sit 161 = .ok (.iload 5, 2) := by decide +kernel
theorem dX6_sit_163 : decode cX6_sit 163 = .ok (.iload 7, 2) := by decide +kernel
theorem dX6_sit_165 : decode cX6_sit 165 = .ok (.idiv, 1) := by decide +kernel
theorem dX6_sit_166 : decode cX6_sit 166 = .ok (.ireturn, 1) := by decide +kernel
theorem dX6_power_0 : decode cX6_power 0 = .ok (.lconst 1, 1) := by decide +kernel
theorem dX6_power_1 : decode cX6_power 1 = .ok (.lstore_n 3, 1) := by decide +kernel
theorem dX6_power_2 : decode cX6_power 2 = .ok (.iconst 0, 1) := by decide +kernel
theorem dX6_power_3 : decode cX6_power 3 = .ok (.istore 5, 2) := by decide +kernel
theorem dX6_power_5 : decode cX6_power 5 = .ok (.iload 5, 2) := by decide +kernel
theorem dX6_power_7 : decode cX6_power 7 = .ok (.iload_n 2, 1) := by decide +kernel
theorem dX6_power_8 : decode cX6_power 8 = .ok (.if_icmp .ge 13, 3) := by decide +kernel
theorem dX6_power_11 : decode cX6_power 11 = .ok (.lload_n 3, 1) := by decide +kernel
theorem dX6_power_12 : decode cX6_power 12 = .ok (.lload_n 0, 1) := by decide +kernel
theorem dX6_power_13 : decode cX6_power 13 = .ok (.lmul, 1) := by decide +kernel
theorem dX6_power_14 : decode cX6_power 14 = .ok (.lstore_n 3, 1) := by decide +kernel
theorem dX6_power_15 : decode cX6_power 15 = .ok (.iinc 5 1, 3) := by decide +kernel
theorem dX6_power_18 : decode cX6_power 18 = .ok (.goto (-13), 3) := by decide +kernel
theorem dX6_power_21 : decode cX6_power 21 = .ok (.lload_n 3, 1) := by decide +kernel
theorem dX6_power_22 : decode cX6_power 22 = .ok (.lreturn, 1) := by decide +kernel
theorem dX6_leave_0 : decode cX6_leave 0 = .ok (.lconst 1, 1) := by decide +kernel
theorem dX6_leave_1 : decode cX6_leave 1 = .ok (.lstore_n 3, 1) := by decide +kernel
theorem dX6_leave_2 : decode cX6_leave 2 = .ok (.iconst 1, 1) := by decide +kernel
theorem dX6_leave_3 : decode cX6_leave 3 = .ok (.istore 5, 2) := by decide +kernel
theorem dX6_leave_5 : decode cX6_leave 5 = .ok (.iload 5, 2) := by decide +kernel
theorem dX6_leave_7 : decode cX6_leave 7 = .ok (.iload_n 1, 1) := by decide +kernel
theorem dX6_leave_8 : decode cX6_leave 8 = .ok (.if_icmp .gt 23, 3) := by decide +kernel
theorem dX6_leave_11 : decode cX6_leave 11 = .ok (.lload_n 3, 1) := by decide +kernel
theorem dX6_leave_12 : decode cX6_leave 12 = .ok (.iload_n 0, 1) := by decide +kernel
theorem dX6_leave_13 : decode cX6_leave 13 = .ok (.iload_n 1, 1) := by decide +kernel
theorem dX6_leave_14 : decode cX6_leave 14 = .ok (.isub, 1) := by decide +kernel
theorem dX6_leave_15 : decode cX6_leave 15 = .ok (.iload 5, 2) := by decide +kernel
theorem dX6_leave_17 : decode cX6_leave 17 = .ok (.iadd, 1) := by decide +kernel
theorem dX6_leave_18 : decode cX6_leave 18 = .ok (.i2l, 1) := by decide +kernel
theorem dX6_leave_19 : decode cX6_leave 19 = .ok (.lmul, 1) := by decide +kernel
theorem dX6_leave_20 : decode cX6_leave 20 = .ok (.iload 5, 2) := by decide +kernel
theorem dX6_leave_22 : decode cX6_leave 22 = .ok (.i2l, 1) := by decide +kernel
theorem dX6_leave_23 : decode cX6_leave 23 = .ok (.ldiv, 1) := by decide +kernel
theorem dX6_leave_24 : decode cX6_leave 24 = .ok (.lstore_n 3, 1) := by decide +kernel
theorem dX6_leave_25 : decode cX6_leave 25 = .ok (.iinc 5 1, 3) := by decide +kernel
theorem dX6_leave_28 : decode cX6_leave 28 = .ok (.goto (-23), 3) := by decide +kernel
theorem dX6_leave_31 : decode cX6_leave 31 = .ok (.lconst 0, 1) := by decide +kernel
theorem dX6_leave_32 : decode cX6_leave 32 = .ok (.lstore 5, 2) := by decide +kernel
theorem dX6_leave_34 : decode cX6_leave 34 = .ok (.iconst 1, 1) := by decide +kernel
theorem dX6_leave_35 : decode cX6_leave 35 = .ok (.istore 7, 2) := by decide +kernel
theorem dX6_leave_37 : decode cX6_leave 37 = .ok (.iload 7, 2) := by decide +kernel
theorem dX6_leave_39 : decode cX6_leave 39 = .ok (.iload_n 2, 1) := by decide +kernel
theorem dX6_leave_40 : decode cX6_leave 40 = .ok (.if_icmp .gt 27, 3) := by decide +kernel
theorem dX6_leave_43 : decode cX6_leave 43 = .ok (.lload 5, 2) := by decide +kernel
theorem dX6_leave_45 : decode cX6_leave 45 = .ok (.lload_n 3, 1) := by decide +kernel
theorem dX6_leave_46 : decode cX6_leave 46 = .ok (.iload 7, 2) := by decide +kernel
theorem dX6_leave_48 : decode cX6_leave 48 = .ok (.iconst 1, 1) := by decide +kernel
theorem dX6_leave_49 : decode cX6_leave 49 = .ok (.isub, 1) := by decide +kernel
theorem dX6_leave_50 : decode cX6_leave 50 = .ok (.i2l, 1) := by decide +kernel
theorem dX6_leave_51 : decode cX6_leave 51 = .ok (.iload_n 0, 1) := by decide +kernel
theorem dX6_leave_52 : decode cX6_leave 52 = .ok (.iload_n 1, 1) := by decide +kernel
theorem dX6_leave_53 : decode cX6_leave 53 = .ok (.isub, 1) := by decide +kernel
theorem dX6_leave_54 : decode cX6_leave 54 = .ok (.invokestatic 277, 3) := by decide +kernel
theorem dX6_leave_57 : decode cX6_leave 57 = .ok (.lmul, 1) := by decide +kernel
theorem dX6_leave_58 : decode cX6_leave 58 = .ok (.ladd, 1) := by decide +kernel
theorem dX6_leave_59 : decode cX6_leave 59 = .ok (.lstore 5, 2) := by decide +kernel
theorem dX6_leave_61 : decode cX6_leave 61 = .ok (.iinc 7 1, 3) := by decide +kernel
theorem dX6_leave_64 : decode cX6_leave 64 = .ok (.goto (-27), 3) := by decide +kernel
theorem dX6_leave_67 : decode cX6_leave 67 = .ok (.lload 5, 2) := by decide +kernel
theorem dX6_leave_69 : decode cX6_leave 69 = .ok (.lreturn, 1) := by decide +kernel
theorem dX6_chance_0 : decode cX6_chance 0 = .ok (.iload_n 1, 1) := by decide +kernel
theorem dX6_chance_1 : decode cX6_chance 1 = .ok (.i2l, 1) := by decide +kernel
theorem dX6_chance_2 : decode cX6_chance 2 = .ok (.lconst 1, 1) := by decide +kernel
theorem dX6_chance_3 : decode cX6_chance 3 = .ok (.ldc2_w 281, 3) := by decide +kernel
theorem dX6_chance_6 : decode cX6_chance 6 = .ok (.invokestatic 45, 3) := by decide +kernel
theorem dX6_chance_9 : decode cX6_chance 9 = .ok (.ifCond .eq 38, 3) := by decide +kernel
theorem dX6_chance_12 : decode cX6_chance 12 = .ok (.iload_n 2, 1) := by decide +kernel
theorem dX6_chance_13 : decode cX6_chance 13 = .ok (.i2l, 1) := by decide +kernel
theorem dX6_chance_14 : decode cX6_chance 14 = .ok (.lconst 1, 1) := by decide +kernel
theorem dX6_chance_15 : decode cX6_chance 15 = .ok (.ldc2_w 229, 3) := by decide +kernel
theorem dX6_chance_18 : decode cX6_chance 18 = .ok (.invokestatic 45, 3) := by decide +kernel
theorem dX6_chance_21 : decode cX6_chance 21 = .ok (.ifCond .eq 26, 3) := by decide +kernel
theorem dX6_chance_24 : decode cX6_chance 24 = .ok (.iload_n 3, 1) := by decide +kernel
theorem dX6_chance_25 : decode cX6_chance 25 = .ok (.i2l, 1) := by decide +kernel
theorem dX6_chance_26 : decode cX6_chance 26 = .ok (.lconst 0, 1) := by decide +kernel
theorem dX6_chance_27 : decode cX6_chance 27 = .ok (.ldc2_w 205, 3) := by decide +kernel
theorem dX6_chance_30 : decode cX6_chance 30 = .ok (.invokestatic 45, 3) := by decide +kernel
theorem dX6_chance_33 : decode cX6_chance 33 = .ok (.ifCond .eq 14, 3) := by decide +kernel
theorem dX6_chance_36 : decode cX6_chance 36 = .ok (.iload 4, 2) := by decide +kernel
theorem dX6_chance_38 : decode cX6_chance 38 = .ok (.i2l, 1) := by decide +kernel
theorem dX6_chance_39 : decode cX6_chance 39 = .ok (.lconst 0, 1) := by decide +kernel
theorem dX6_chance_40 : decode cX6_chance 40 = .ok (.lconst 1, 1) := by decide +kernel
theorem dX6_chance_41 : decode cX6_chance 41 = .ok (.invokestatic 45, 3) := by decide +kernel
theorem dX6_chance_44 : decode cX6_chance 44 = .ok (.ifCond .ne 7, 3) := by decide +kernel
theorem dX6_chance_47 : decode cX6_chance 47 = .ok (.ldc2_w 283, 3) := by decide +kernel
theorem dX6_chance_50 : decode cX6_chance 50 = .ok (.lreturn, 1) := by decide +kernel
theorem dX6_chance_51 : decode cX6_chance 51 = .ok (.iconst 0, 1) := by decide +kernel
theorem dX6_chance_52 : decode cX6_chance 52 = .ok (.istore 5, 2) := by decide +kernel
theorem dX6_chance_54 : decode cX6_chance 54 = .ok (.iload 5, 2) := by decide +kernel
theorem dX6_chance_56 : decode cX6_chance 56 = .ok (.bipush 6, 2) := by decide +kernel
theorem dX6_chance_58 : decode cX6_chance 58 = .ok (.if_icmp .ge 27, 3) := by decide +kernel
theorem dX6_chance_61 : decode cX6_chance 61 = .ok (.aload_n 0, 1) := by decide +kernel
theorem dX6_chance_62 : decode cX6_chance 62 = .ok (.getfield 34, 3) := by decide +kernel
theorem dX6_chance_65 : decode cX6_chance 65 = .ok (.iload 5, 2) := by decide +kernel
theorem dX6_chance_67 : decode cX6_chance 67 = .ok (.iload 5, 2) := by decide +kernel
theorem dX6_chance_69 : decode cX6_chance 69 = .ok (.iload_n 1, 1) := by decide +kernel
theorem dX6_chance_70 : decode cX6_chance 70 = .ok (.if_icmp .ne 7, 3) := by decide +kernel
theorem dX6_chance_73 : decode cX6_chance 73 = .ok (.lconst 1, 1) := by decide +kernel
theorem dX6_chance_74 : decode cX6_chance 74 = .ok (.goto 4, 3) := by decide +kernel
theorem dX6_chance_77 : decode cX6_chance 77 = .ok (.lconst 0, 1) := by decide +kernel
theorem dX6_chance_78 : decode cX6_chance 78 = .ok (.lastore, 1) := by decide +kernel
theorem dX6_chance_79 : decode cX6_chance 79 = .ok (.iinc 5 1, 3) := by decide +kernel
theorem dX6_chance_82 : decode cX6_chance 82 = .ok (.goto (-28), 3) := by decide +kernel
theorem dX6_chance_85 : decode cX6_chance 85 = .ok (.lconst 1, 1) := by decide +kernel
theorem dX6_chance_86 : decode cX6_chance 86 = .ok (.lstore 5, 2) := by decide +kernel
theorem dX6_chance_88 : decode cX6_chance 88 = .ok (.iconst 0, 1) := by decide +kernel
theorem dX6_chance_89 : decode cX6_chance 89 = .ok (.istore 7, 2) := by decide +kernel
theorem dX6_chance_91 : decode cX6_chance 91 = .ok (.iload 7, 2) := by decide +kernel
theorem dX6_chance_93 : decode cX6_chance 93 = .ok (.iload_n 3, 1) := by decide +kernel
theorem dX6_chance_94 : decode cX6_chance 94 = .ok (.if_icmp .ge 158, 3) := by decide +kernel
theorem dX6_chance_97 : decode cX6_chance 97 = .ok (.iconst 1, 1) := by decide +kernel
theorem dX6_chance_98 : decode cX6_chance 98 = .ok (.istore 8, 2) := by decide +kernel
theorem dX6_chance_100 : decode cX6_chance 100 = .ok (.iload 8, 2) := by decide +kernel
theorem dX6_chance_102 : decode cX6_chance 102 = .ok (.bipush 6, 2) := by decide +kernel
theorem dX6_chance_104 : decode cX6_chance 104 = .ok (.if_icmp .ge 101, 3) := by decide +kernel
theorem dX6_chance_107 : decode cX6_chance 107 = .ok (.aload_n 0, 1) := by decide +kernel
theorem dX6_chance_108 : decode cX6_chance 108 = .ok (.getfield 38, 3) := by decide +kernel
theorem dX6_chance_111 : decode cX6_chance 111 = .ok (.iload 8, 2) := by decide +kernel
theorem dX6_chance_113 : decode cX6_chance 113 = .ok (.iload 8, 2) := by decide +kernel
theorem dX6_chance_115 : decode cX6_chance 115 = .ok (.iconst 1, 1) := by decide +kernel
theorem dX6_chance_116 : decode cX6_chance 116 = .ok (.if_icmp .ne 19, 3) := by decide +kernel
theorem dX6_chance_119 : decode cX6_chance 119 = .ok (.aload_n 0, 1) := by decide +kernel
theorem dX6_chance_120 : decode cX6_chance 120 = .ok (.getfield 34, 3) := by decide +kernel
theorem dX6_chance_123 : decode cX6_chance 123 = .ok (.iconst 1, 1) := by decide +kernel
theorem dX6_chance_124 : decode cX6_chance 124 = .ok (.laload, 1) := by decide +kernel
theorem dX6_chance_125 : decode cX6_chance 125 = .ok (.iload_n 2, 1) := by decide +kernel
theorem dX6_chance_126 : decode cX6_chance 126 = .ok (.i2l, 1) := by decide +kernel
theorem dX6_chance_127 : decode cX6_chance 127 = .ok (.iload_n 1, 1) := by decide +kernel
theorem dX6_chance_128 : decode cX6_chance 128 = .ok (.invokestatic 277, 3) := by decide +kernel
theorem dX6_chance_131 : decode cX6_chance 131 = .ok (.lmul, 1) := by decide +kernel
theorem dX6_chance_132 : decode cX6_chance 132 = .ok (.goto 4, 3) := by decide +kernel
theorem dX6_chance_135 : decode cX6_chance 135 = .ok (.lconst 0, 1) := by decide +kernel
theorem dX6_chance_136 : decode cX6_chance 136 = .ok (.lastore, 1) := by decide +kernel
theorem dX6_chance_137 : decode cX6_chance 137 = .ok (.iconst 2, 1) := by decide +kernel
theorem dX6_chance_138 : decode cX6_chance 138 = .ok (.istore 9, 2) := by decide +kernel
theorem dX6_chance_140 : decode cX6_chance 140 = .ok (.iload 9, 2) := by decide +kernel
theorem dX6_chance_142 : decode cX6_chance 142 = .ok (.iload_n 1, 1) := by decide +kernel
theorem dX6_chance_143 : decode cX6_chance 143 = .ok (.if_icmp .gt 56, 3) := by decide +kernel
theorem dX6_chance_146 : decode cX6_chance 146 = .ok (.aload_n 0, 1) := by decide +kernel
theorem dX6_chance_147 : decode cX6_chance 147 = .ok (.getfield 38, 3) := by decide +kernel
theorem dX6_chance_150 : decode cX6_chance 150 = .ok (.iload 8, 2) := by decide +kernel
theorem dX6_chance_152 : decode cX6_chance 152 = .ok (.dup2, 1) := by decide +kernel
theorem dX6_chance_153 : decode cX6_chance 153 = .ok (.laload, 1) := by decide +kernel
theorem dX6_chance_154 : decode cX6_chance 154 = .ok (.iload 9, 2) := by decide +kernel
theorem dX6_chance_156 : decode cX6_chance 156 = .ok (.iload 8, 2) := by decide +kernel
theorem dX6_chance_158 : decode cX6_chance 158 = .ok (.if_icmp .lt 32, 3) := by decide +kernel
theorem dX6_chance_161 : decode cX6_chance 161 = .ok (.aload_n 0, 1) := by decide +kernel
theorem dX6_chance_162 : decode cX6_chance 162 = .ok (.getfield 34, 3) := by decide +kernel
theorem dX6_chance_165 : decode cX6_chance 165 = .ok (.iload 9, 2) := by decide +kernel
theorem dX6_chance_167 : decode cX6_chance 167 = .ok (.laload, 1) := by decide +kernel
theorem dX6_chance_168 : decode cX6_chance 168 = .ok (.iload 9, 2) := by decide +kernel
theorem dX6_chance_170 : decode cX6_chance 170 = .ok (.iload 8, 2) := by decide +kernel
theorem dX6_chance_172 : decode cX6_chance 172 = .ok (.iload_n 2, 1) := by decide +kernel
theorem dX6_chance_173 : decode cX6_chance 173 = .ok (.invokestatic 285, 3) := by decide +kernel
theorem dX6_chance_176 : decode cX6_chance 176 = .ok (.lmul, 1) := by decide +kernel
theorem dX6_chance_177 : decode cX6_chance 177 = .ok (.iload_n 2, 1) := by decide +kernel
theorem dX6_chance_178 : decode cX6_chance 178 = .ok (.i2l, 1) := by decide +kernel
theorem dX6_chance_179 : decode cX6_chance 179 = .ok (.iload_n 1, 1) := by decide +kernel
theorem dX6_chance_180 : decode cX6_chance 180 = .ok (.iload 9, 2) := by decide +kernel
theorem dX6_chance_182 : decode cX6_chance 182 = .ok (.isub, 1) := by decide +kernel
theorem dX6_chance_183 : decode cX6_chance 183 = .ok (.invokestatic 277, 3) := by decide +kernel
theorem dX6_chance_186 : decode cX6_chance 186 = .ok (.lmul, 1) := by decide +kernel
theorem dX6_chance_187 : decode cX6_chance 187 = .ok (.goto 4, 3) := by decide +kernel
theorem dX6_chance_190 : decode cX6_chance 190 = .ok (.lconst 0, 1) := by decide +kernel
theorem dX6_chance_191 : decode cX6_chance 191 = .ok (.ladd, 1) := by decide +kernel
theorem dX6_chance_192 : decode cX6_chance 192 = .ok (.lastore, 1) := by decide +kernel
theorem dX6_chance_193 : decode cX6_chance 193 = .ok (.iinc 9 1, 3) := by decide +kernel
theorem dX6_chance_196 : decode cX6_chance 196 = .ok (.goto (-56), 3) := by decide +kernel
theorem dX6_chance_199 : decode cX6_chance 199 = .ok (.iinc 8 1, 3) := by decide +kernel
theorem dX6_chance_202 : decode cX6_chance 202 = .ok (.goto (-102), 3) := by decide +kernel
theorem dX6_chance_205 : decode cX6_chance 205 = .ok (.iconst 1, 1) := by decide +kernel
theorem dX6_chance_206 : decode cX6_chance 206 = .ok (.istore 8, 2) := by decide +kernel
theorem dX6_chance_208 : decode cX6_chance 208 = .ok (.iload 8, 2) := by decide +kernel
theorem dX6_chance_210 : decode cX6_chance 210 = .ok (.bipush 6, 2) := by decide +kernel
theorem dX6_chance_212 : decode cX6_chance 212 = .ok (.if_icmp .ge 23, 3) := by decide +kernel
theorem dX6_chance_215 : decode cX6_chance 215 = .ok (.aload_n 0, 1) := by decide +kernel
theorem dX6_chance_216 : decode cX6_chance 216 = .ok (.getfield 34, 3) := by decide +kernel
theorem dX6_chance_219 : decode cX6_chance 219 = .ok (.iload 8, 2) := by decide +kernel
theorem dX6_chance_221 : decode cX6_chance 221 = .ok (.aload_n 0, 1) := by decide +kernel
theorem dX6_chance_222 : decode cX6_chance 222 = .ok (.getfield 38, 3) := by decide +kernel
theorem dX6_chance_225 : decode cX6_chance 225 = .ok (.iload 8, 2) := by decide +kernel
theorem dX6_chance_227 : decode cX6_chance 227 = .ok (.laload, 1) := by decide +kernel
theorem dX6_chance_228 : decode cX6_chance 228 = .ok (.lastore, 1) := by decide +kernel
theorem dX6_chance_229 : decode cX6_chance 229 = .ok (.iinc 8 1, 3) := by decide +kernel
theorem dX6_chance_232 : decode cX6_chance 232 = .ok (.goto (-24), 3) := by decide +kernel
theorem dX6_chance_235 : decode cX6_chance 235 = .ok (.lload 5, 2) := by decide +kernel
theorem dX6_chance_237 : decode cX6_chance 237 = .ok (.iload_n 2, 1) := by decide +kernel
theorem dX6_chance_238 : decode cX6_chance 238 = .ok (.i2l, 1) := by decide +kernel
theorem dX6_chance_239 : decode cX6_chance 239 = .ok (.iload_n 1, 1) := by decide +kernel
theorem dX6_chance_240 : decode cX6_chance 240 = .ok (.invokestatic 277, 3) := by decide +kernel
theorem dX6_chance_243 : decode cX6_chance 243 = .ok (.lmul, 1) := by decide +kernel
theorem dX6_chance_244 : decode cX6_chance 244 = .ok (.lstore 5, 2) := by decide +kernel
theorem dX6_chance_246 : decode cX6_chance 246 = .ok (.iinc 7 1, 3) := by decide +kernel
theorem dX6_chance_249 : decode cX6_chance 249 = .ok (.goto (-158), 3) := by decide +kernel
theorem dX6_chance_252 : decode cX6_chance 252 = .ok (.aload_n 0, 1) := by decide +kernel
theorem dX6_chance_253 : decode cX6_chance 253 = .ok (.getfield 34, 3) := by decide +kernel
theorem dX6_chance_256 : decode cX6_chance 256 = .ok (.iconst 1, 1) := by decide +kernel
theorem dX6_chance_257 : decode cX6_chance 257 = .ok (.laload, 1) := by decide +kernel
theorem dX6_chance_258 : decode cX6_chance 258 = .ok (.lload 5, 2) := by decide +kernel
theorem dX6_chance_260 : decode cX6_chance 260 = .ok (.invokestatic 273, 3) := by decide +kernel
theorem dX6_chance_263 : decode cX6_chance 263 = .ok (.lstore 7, 2) := by decide +kernel
theorem dX6_chance_265 : decode cX6_chance 265 = .ok (.iload 4, 2) := by decide +kernel
theorem dX6_chance_267 : decode cX6_chance 267 = .ok (.ifCond .ne 15, 3) := by decide +kernel
theorem dX6_chance_270 : decode cX6_chance 270 = .ok (.aload_n 0, 1) := by decide +kernel
theorem dX6_chance_271 : decode cX6_chance 271 = .ok (.getfield 34, 3) := by decide +kernel
theorem dX6_chance_274 : decode cX6_chance 274 = .ok (.iconst 1, 1) := by decide +kernel
theorem dX6_chance_275 : decode cX6_chance 275 = .ok (.laload, 1) := by decide +kernel
theorem dX6_chance_276 : decode cX6_chance 276 = .ok (.lload 7, 2) := by decide +kernel
theorem dX6_chance_278 : decode cX6_chance 278 = .ok (.ldiv, 1) := by decide +kernel
theorem dX6_chance_279 : decode cX6_chance 279 = .ok (.goto 8, 3) := by decide +kernel
theorem dX6_chance_282 : decode cX6_chance 282 = .ok (.lload 5, 2) := by decide +kernel
theorem dX6_chance_284 : decode cX6_chance 284 = .ok (.lload 7, 2) := by decide +kernel
theorem dX6_chance_286 : decode cX6_chance 286 = .ok (.ldiv, 1) := by decide +kernel
theorem dX6_chance_287 : decode cX6_chance 287 = .ok (.lreturn, 1) := by decide +kernel
theorem dX6_count_0 : decode cX6_count 0 = .ok (.aload_n 0, 1) := by decide +kernel
theorem dX6_count_1 : decode cX6_count 1 = .ok (.invokevirtual 216, 3) := by decide +kernel
theorem dX6_count_4 : decode cX6_count 4 = .ok (.istore_n 2, 1) := by decide +kernel
theorem dX6_count_5 : decode cX6_count 5 = .ok (.iload_n 1, 1) := by decide +kernel
theorem dX6_count_6 : decode cX6_count 6 = .ok (.tableswitch 118 0 10 #[58, 63, 70, 77, 77, 77, 77, 77, 94, 108, 113], 58) := by decide +kernel
theorem dX6_count_64 : decode cX6_count 64 = .ok (.aload_n 0, 1) := by decide +kernel
theorem dX6_count_65 : decode cX6_count 65 = .ok (.getfield 41, 3) := by decide +kernel
theorem dX6_count_68 : decode cX6_count 68 = .ok (.ireturn, 1) := by decide +kernel
theorem dX6_count_69 : decode cX6_count 69 = .ok (.aload_n 0, 1) := by decide +kernel
theorem dX6_count_70 : decode cX6_count 70 = .ok (.getfield 16, 3) := by decide +kernel
theorem dX6_count_73 : decode cX6_count 73 = .ok (.iconst 0, 1) := by decide +kernel
theorem dX6_count_74 : decode cX6_count 74 = .ok (.iaload, 1) := by decide +kernel
theorem dX6_count_75 : decode cX6_count 75 = .ok (.ireturn, 1) := by decide +kernel
theorem dX6_count_76 : decode cX6_count 76 = .ok (.aload_n 0, 1) := by decide +kernel
theorem dX6_count_77 : decode cX6_count 77 = .ok (.getfield 16, 3) := by decide +kernel
theorem dX6_count_80 : decode cX6_count 80 = .ok (.iconst 2, 1) := by decide +kernel
theorem dX6_count_81 : decode cX6_count 81 = .ok (.iaload, 1) := by decide +kernel
theorem dX6_count_82 : decode cX6_count 82 = .ok (.ireturn, 1) := by decide +kernel
theorem dX6_count_83 : decode cX6_count 83 = .ok (.iload_n 2, 1) := by decide +kernel
theorem dX6_count_84 : decode cX6_count 84 = .ok (.ifCond .eq 14, 3) := by decide +kernel
theorem dX6_count_87 : decode cX6_count 87 = .ok (.aload_n 0, 1) := by decide +kernel
theorem dX6_count_88 : decode cX6_count 88 = .ok (.iconst 0, 1) := by decide +kernel
theorem dX6_count_89 : decode cX6_count 89 = .ok (.iload_n 1, 1) := by decide +kernel
theorem dX6_count_90 : decode cX6_count 90 = .ok (.iconst 3, 1) := by decide +kernel
theorem dX6_count_91 : decode cX6_count 91 = .ok (.isub, 1) := by decide +kernel
theorem dX6_count_92 : decode cX6_count 92 = .ok (.invokevirtual 245, 3) := by decide +kernel
theorem dX6_count_95 : decode cX6_count 95 = .ok (.goto 4, 3) := by decide +kernel
theorem dX6_count_98 : decode cX6_count 98 = .ok (.iconst 0, 1) := by decide +kernel
theorem dX6_count_99 : decode cX6_count 99 = .ok (.ireturn, 1) := by decide +kernel
theorem dX6_count_100 : decode cX6_count 100 = .ok (.iload_n 2, 1) := by decide +kernel
theorem dX6_count_101 : decode cX6_count 101 = .ok (.ifCond .eq 11, 3) := by decide +kernel
theorem dX6_count_104 : decode cX6_count 104 = .ok (.aload_n 0, 1) := by decide +kernel
theorem dX6_count_105 : decode cX6_count 105 = .ok (.iconst 0, 1) := by decide +kernel
theorem dX6_count_106 : decode cX6_count 106 = .ok (.invokevirtual 242, 3) := by decide +kernel
theorem dX6_count_109 : decode cX6_count 109 = .ok (.goto 4, 3) := by decide +kernel
theorem dX6_count_112 : decode cX6_count 112 = .ok (.iconst (-1), 1) := by decide +kernel
theorem dX6_count_113 : decode cX6_count 113 = .ok (.ireturn, 1) := by decide +kernel
theorem dX6_count_114 : decode cX6_count 114 = .ok (.aload_n 0, 1) := by decide +kernel
theorem dX6_count_115 : decode cX6_count 115 = .ok (.getfield 153, 3) := by decide +kernel
theorem dX6_count_118 : decode cX6_count 118 = .ok (.ireturn, 1) := by decide +kernel
theorem dX6_count_119 : decode cX6_count 119 = .ok (.aload_n 0, 1) := by decide +kernel
theorem dX6_count_120 : decode cX6_count 120 = .ok (.getfield 162, 3) := by decide +kernel
theorem dX6_count_123 : decode cX6_count 123 = .ok (.ireturn, 1) := by decide +kernel
theorem dX6_count_124 : decode cX6_count 124 = .ok (.ldc 161, 2) := by decide +kernel
theorem dX6_count_126 : decode cX6_count 126 = .ok (.ireturn, 1) := by decide +kernel
end
section
theorem dL_law_0 : decode cL_law 0 = .ok (.new 7, 3) := by decide +kernel
theorem dL_law_3 : decode cL_law 3 = .ok (.dup, 1) := by decide +kernel
theorem dL_law_4 : decode cL_law 4 = .ok (.invokespecial 9, 3) := by decide +kernel
theorem dL_law_7 : decode cL_law 7 = .ok (.astore_n 1, 1) := by decide +kernel
theorem dL_law_8 : decode cL_law 8 = .ok (.new 10, 3) := by decide +kernel
theorem dL_law_11 : decode cL_law 11 = .ok (.dup, 1) := by decide +kernel
theorem dL_law_12 : decode cL_law 12 = .ok (.invokespecial 12, 3) := by decide +kernel
theorem dL_law_15 : decode cL_law 15 = .ok (.astore_n 2, 1) := by decide +kernel
theorem dL_law_16 : decode cL_law 16 = .ok (.iconst 0, 1) := by decide +kernel
theorem dL_law_17 : decode cL_law 17 = .ok (.istore_n 3, 1) := by decide +kernel
theorem dL_law_18 : decode cL_law 18 = .ok (.iload_n 3, 1) := by decide +kernel
theorem dL_law_19 : decode cL_law 19 = .ok (.aload_n 0, 1) := by decide +kernel
theorem dL_law_20 : decode cL_law 20 = .ok (.arraylength, 1) := by decide +kernel
theorem dL_law_21 : decode cL_law 21 = .ok (.iconst 5, 1) := by decide +kernel
theorem dL_law_22 : decode cL_law 22 = .ok (.isub, 1) := by decide +kernel
theorem dL_law_23 : decode cL_law 23 = .ok (.if_icmp .gt 591, 3) := by decide +kernel
theorem dL_law_26 : decode cL_law 26 = .ok (.aload_n 0, 1) := by decide +kernel
theorem dL_law_27 : decode cL_law 27 = .ok (.iload_n 3, 1) := by decide +kernel
theorem dL_law_28 : decode cL_law 28 = .ok (.iaload, 1) := by decide +kernel
theorem dL_law_29 : decode cL_law 29 = .ok (.bipush 31, 2) := by decide +kernel
theorem dL_law_31 : decode cL_law 31 = .ok (.iand, 1) := by decide +kernel
theorem dL_law_32 : decode cL_law 32 = .ok (.tableswitch 576 0 16 #[84, 107, 120, 133, 176, 199, 222, 265, 278, 311, 334, 377, 400, 443, 476, 499, 553], 84) := by decide +kernel
theorem dL_law_116 : decode cL_law 116 = .ok (.aload_n 1, 1) := by decide +kernel
theorem dL_law_117 : decode cL_law 117 = .ok (.aload_n 0, 1) := by decide +kernel
theorem dL_law_118 : decode cL_law 118 = .ok (.iload_n 3, 1) := by decide +kernel
theorem dL_law_119 : decode cL_law 119 = .ok (.iconst 1, 1) := by decide +kernel
theorem dL_law_120 : decode cL_law 120 = .ok (.iadd, 1) := by decide +kernel
theorem dL_law_121 : decode cL_law 121 = .ok (.iaload, 1) := by decide +kernel
theorem dL_law_122 : decode cL_law 122 = .ok (.invokevirtual 13, 3) := by decide +kernel
theorem dL_law_125 : decode cL_law 125 = .ok (.aload_n 2, 1) := by decide +kernel
theorem dL_law_126 : decode cL_law 126 = .ok (.aload_n 0, 1) := by decide +kernel
theorem dL_law_127 : decode cL_law 127 = .ok (.iload_n 3, 1) := by decide +kernel
theorem dL_law_128 : decode cL_law 128 = .ok (.iconst 1, 1) := by decide +kernel
theorem dL_law_129 : decode cL_law 129 = .ok (.iadd, 1) := by decide +kernel
theorem dL_law_130 : decode cL_law 130 = .ok (.iaload, 1) := by decide +kernel
theorem dL_law_131 : decode cL_law 131 = .ok (.invokevirtual 17, 3) := by decide +kernel
theorem dL_law_134 : decode cL_law 134 = .ok (.if_icmp .eq 474, 3) := by decide +kernel
theorem dL_law_137 : decode cL_law 137 = .ok (.iconst 0, 1) := by decide +kernel
theorem dL_law_138 : decode cL_law 138 = .ok (.ireturn, 1) := by decide +kernel
theorem dL_law_139 : decode cL_law 139 = .ok (.aload_n 1, 1) := by decide +kernel
theorem dL_law_140 : decode cL_law 140 = .ok (.invokevirtual 18, 3) := by decide +kernel
theorem dL_law_143 : decode cL_law 143 = .ok (.aload_n 2, 1) := by decide +kernel
theorem dL_law_144 : decode cL_law 144 = .ok (.invokevirtual 22, 3) := by decide +kernel
theorem dL_law_147 : decode cL_law 147 = .ok (.if_icmp .eq 461, 3) := by decide +kernel
theorem dL_law_150 : decode cL_law 150 = .ok (.iconst 0, 1) := by decide +kernel
theorem dL_law_151 : decode cL_law 151 = .ok (.ireturn, 1) := by decide +kernel
theorem dL_law_152 : decode cL_law 152 = .ok (.aload_n 1, 1) := by decide +kernel
theorem dL_law_153 : decode cL_law 153 = .ok (.invokevirtual 23, 3) := by decide +kernel
theorem dL_law_156 : decode cL_law 156 = .ok (.aload_n 2, 1) := by decide +kernel
theorem dL_law_157 : decode cL_law 157 = .ok (.invokevirtual 26, 3) := by decide +kernel
theorem dL_law_160 : decode cL_law 160 = .ok (.if_icmp .eq 448, 3) := by decide +kernel
theorem dL_law_163 : decode cL_law 163 = .ok (.iconst 0, 1) := by decide +kernel
theorem dL_law_164 : decode cL_law 164 = .ok (.ireturn, 1) := by decide +kernel
theorem dL_law_165 : decode cL_law 165 = .ok (.aload_n 1, 1) := by decide +kernel
theorem dL_law_166 : decode cL_law 166 = .ok (.aload_n 0, 1) := by decide +kernel
theorem dL_law_167 : decode cL_law 167 = .ok (.iload_n 3, 1) := by decide +kernel
theorem dL_law_168 : decode cL_law 168 = .ok (.iconst 1, 1) := by decide +kernel
theorem dL_law_169 : decode cL_law 169 = .ok (.iadd, 1) := by decide +kernel
theorem dL_law_170 : decode cL_law 170 = .ok (.iaload, 1) := by decide +kernel
theorem dL_law_171 : decode cL_law 171 = .ok (.aload_n 0, 1) := by decide +kernel
theorem dL_law_172 : decode cL_law 172 = .ok (.iload_n 3, 1) := by decide +kernel
theorem dL_law_173 : decode cL_law 173 = .ok (.iconst 2, 1) := by decide +kernel
theorem dL_law_174 : decode cL_law 174 = .ok (.iadd, 1) := by decide +kernel
theorem dL_law_175 : decode cL_law 175 = .ok (.iaload, 1) := by decide +kernel
theorem dL_law_176 : decode cL_law 176 = .ok (.aload_n 0, 1) := by decide +kernel
theorem dL_law_177 : decode cL_law 177 = .ok (.iload_n 3, 1) := by decide +kernel
theorem dL_law_178 : decode cL_law 178 = .ok (.iconst 3, 1) := by decide +kernel
theorem dL_law_179 : decode cL_law 179 = .ok (.iadd, 1) := by decide +kernel
theorem dL_law_180 : decode cL_law 180 = .ok (.iaload, 1) := by decide +kernel
theorem dL_law_181 : decode cL_law 181 = .ok (.invokevirtual 27, 3) := by decide +kernel
theorem dL_law_184 : decode cL_law 184 = .ok (.aload_n 2, 1) := by decide +kernel
theorem dL_law_185 : decode cL_law 185 = .ok (.aload_n 0, 1) := by decide +kernel
theorem dL_law_186 : decode cL_law 186 = .ok (.iload_n 3, 1) := by decide +kernel
theorem dL_law_187 : decode cL_law 187 = .ok (.iconst 1, 1) := by decide +kernel
theorem dL_law_188 : decode cL_law 188 = .ok (.iadd, 1) := by decide +kernel
theorem dL_law_189 : decode cL_law 189 = .ok (.iaload, 1) := by decide +kernel
theorem dL_law_190 : decode cL_law 190 = .ok (.aload_n 0, 1) := by decide +kernel
theorem dL_law_191 : decode cL_law 191 = .ok (.iload_n 3, 1) := by decide +kernel
theorem dL_law_192 : decode cL_law 192 = .ok (.iconst 2, 1) := by decide +kernel
theorem dL_law_193 : decode cL_law 193 = .ok (.iadd, 1) := by decide +kernel
theorem dL_law_194 : decode cL_law 194 = .ok (.iaload, 1) := by decide +kernel
theorem dL_law_195 : decode cL_law 195 = .ok (.aload_n 0, 1) := by decide +kernel
theorem dL_law_196 : decode cL_law 196 = .ok (.iload_n 3, 1) := by decide +kernel
theorem dL_law_197 : decode cL_law 197 = .ok (.iconst 3, 1) := by decide +kernel
theorem dL_law_198 : decode cL_law 198 = .ok (.iadd, 1) := by decide +kernel
theorem dL_law_199 : decode cL_law 199 = .ok (.iaload, 1) := by decide +kernel
theorem dL_law_200 : decode cL_law 200 = .ok (.invokevirtual 31, 3) := by decide +kernel
theorem dL_law_203 : decode cL_law 203 = .ok (.if_icmp .eq 405, 3) := by decide +kernel
theorem dL_law_206 : decode cL_law 206 = .ok (.iconst 0, 1) := by decide +kernel
theorem dL_law_207 : decode cL_law 207 = .ok (.ireturn, 1) := by decide +kernel
theorem dL_law_208 : decode cL_law 208 = .ok (.aload_n 1, 1) := by decide +kernel
theorem dL_law_209 : decode cL_law 209 = .ok (.aload_n 0, 1) := by decide +kernel
theorem dL_law_210 : decode cL_law 210 = .ok (.iload_n 3, 1) := by decide +kernel
theorem dL_law_211 : decode cL_law 211 = .ok (.iconst 1, 1) := by decide +kernel
theorem dL_law_212 : decode cL_law 212 = .ok (.iadd, 1) := by decide +kernel
theorem dL_law_213 : decode cL_law 213 = .ok (.iaload, 1) := by decide +kernel
theorem dL_law_214 : decode cL_law 214 = .ok (.invokevirtual 32, 3) := by decide +kernel
theorem dL_law_217 : decode cL_law 217 = .ok (.aload_n 2, 1) := by decide +kernel
theorem dL_law_218 : decode cL_law 218 = .ok (.aload_n 0, 1) := by decide +kernel
theorem dL_law_219 : decode cL_law 219 = .ok (.iload_n 3, 1) := by decide +kernel
theorem dL_law_220 : decode cL_law 220 = .ok (.iconst 1, 1) := by decide +kernel
theorem dL_law_221 : decode cL_law 221 = .ok (.iadd, 1) := by decide +kernel
theorem dL_law_222 : decode cL_law 222 = .ok (.iaload, 1) := by decide +kernel
theorem dL_law_223 : decode cL_law 223 = .ok (.invokevirtual 35, 3) := by decide +kernel
theorem dL_law_226 : decode cL_law 226 = .ok (.if_icmp .eq 382, 3) := by decide +kernel
theorem dL_law_229 : decode cL_law 229 = .ok (.iconst 0, 1) := by decide +kernel
theorem dL_law_230 : decode cL_law 230 = .ok (.ireturn, 1) := by decide +kernel
theorem dL_law_231 : decode cL_law 231 = .ok (.aload_n 1, 1) := by decide +kernel
theorem dL_law_232 : decode cL_law 232 = .ok (.aload_n 0, 1) := by decide +kernel
theorem dL_law_233 : decode cL_law 233 = .ok (.iload_n 3, 1) := by decide +kernel
theorem dL_law_234 : decode cL_law 234 = .ok (.iconst 1, 1) := by decide +kernel
theorem dL_law_235 : decode cL_law 235 = .ok (.iadd, 1) := by decide +kernel
theorem dL_law_236 : decode cL_law 236 = .ok (.iaload, 1) := by decide +kernel
theorem dL_law_237 : decode cL_law 237 = .ok (.invokevirtual 36, 3) := by decide +kernel
theorem dL_law_240 : decode cL_law 240 = .ok (.aload_n 2, 1) := by decide +kernel
theorem dL_law_241 : decode cL_law 241 = .ok (.aload_n 0, 1) := by decide +kernel
theorem dL_law_242 : decode cL_law 242 = .ok (.iload_n 3, 1) := by decide +kernel
theorem dL_law_243 : decode cL_law 243 = .ok (.iconst 1, 1) := by decide +kernel
theorem dL_law_244 : decode cL_law 244 = .ok (.iadd, 1) := by decide +kernel
theorem dL_law_245 : decode cL_law 245 = .ok (.iaload, 1) := by decide +kernel
theorem dL_law_246 : decode cL_law 246 = .ok (.invokevirtual 39, 3) := by decide +kernel
theorem dL_law_249 : decode cL_law 249 = .ok (.if_icmp .eq 359, 3) := by decide +kernel
theorem dL_law_252 : decode cL_law 252 = .ok (.iconst 0, 1) := by decide +kernel
theorem dL_law_253 : decode cL_law 253 = .ok (.ireturn, 1) := by decide +kernel
theorem dL_law_254 : decode cL_law 254 = .ok (.aload_n 1, 1) := by decide +kernel
theorem dL_law_255 : decode cL_law 255 = .ok (.aload_n 0, 1) := by decide +kernel
theorem dL_law_256 : decode cL_law 256 = .ok (.iload_n 3, 1) := by decide +kernel
theorem dL_law_257 : decode cL_law 257 = .ok (.iconst 1, 1) := by decide +kernel
theorem dL_law_258 : decode cL_law 258 = .ok (.iadd, 1) := by decide +kernel
theorem dL_law_259 : decode cL_law 259 = .ok (.iaload, 1) := by decide +kernel
theorem dL_law_260 : decode cL_law 260 = .ok (.aload_n 0, 1) := by decide +kernel
theorem dL_law_261 : decode cL_law 261 = .ok (.iload_n 3, 1) := by decide +kernel
theorem dL_law_262 : decode cL_law 262 = .ok (.iconst 2, 1) := by decide +kernel
theorem dL_law_263 : decode cL_law 263 = .ok (.iadd, 1) := by decide +kernel
theorem dL_law_264 : decode cL_law 264 = .ok (.iaload, 1) := by decide +kernel
theorem dL_law_265 : decode cL_law 265 = .ok (.aload_n 0, 1) := by decide +kernel
theorem dL_law_266 : decode cL_law 266 = .ok (.iload_n 3, 1) := by decide +kernel
theorem dL_law_267 : decode cL_law 267 = .ok (.iconst 3, 1) := by decide +kernel
theorem dL_law_268 : decode cL_law 268 = .ok (.iadd, 1) := by decide +kernel
theorem dL_law_269 : decode cL_law 269 = .ok (.iaload, 1) := by decide +kernel
theorem dL_law_270 : decode cL_law 270 = .ok (.invokevirtual 40, 3) := by decide +kernel
theorem dL_law_273 : decode cL_law 273 = .ok (.aload_n 2, 1) := by decide +kernel
theorem dL_law_274 : decode cL_law 274 = .ok (.aload_n 0, 1) := by decide +kernel
theorem dL_law_275 : decode cL_law 275 = .ok (.iload_n 3, 1) := by decide +kernel
theorem dL_law_276 : decode cL_law 276 = .ok (.iconst 1, 1) := by decide +kernel
theorem dL_law_277 : decode cL_law 277 = .ok (.iadd, 1) := by decide +kernel
theorem dL_law_278 : decode cL_law 278 = .ok (.iaload, 1) := by decide +kernel
theorem dL_law_279 : decode cL_law 279 = .ok (.aload_n 0, 1) := by decide +kernel
theorem dL_law_280 : decode cL_law 280 = .ok (.iload_n 3, 1) := by decide +kernel
theorem dL_law_281 : decode cL_law 281 = .ok (.iconst 2, 1) := by decide +kernel
theorem dL_law_282 : decode cL_law 282 = .ok (.iadd, 1) := by decide +kernel
theorem dL_law_283 : decode cL_law 283 = .ok (.iaload, 1) := by decide +kernel
theorem dL_law_284 : decode cL_law 284 = .ok (.aload_n 0, 1) := by decide +kernel
theorem dL_law_285 : decode cL_law 285 = .ok (.iload_n 3, 1) := by decide +kernel
theorem dL_law_286 : decode cL_law 286 = .ok (.iconst 3, 1) := by decide +kernel
theorem dL_law_287 : decode cL_law 287 = .ok (.iadd, 1) := by decide +kernel
theorem dL_law_288 : decode cL_law 288 = .ok (.iaload, 1) := by decide +kernel
theorem dL_law_289 : decode cL_law 289 = .ok (.invokevirtual 43, 3) := by decide +kernel
theorem dL_law_292 : decode cL_law 292 = .ok (.if_icmp .eq 316, 3) := by decide +kernel
theorem dL_law_295 : decode cL_law 295 = .ok (.iconst 0, 1) := by decide +kernel
theorem dL_law_296 : decode cL_law 296 = .ok (.ireturn, 1) := by decide +kernel
theorem dL_law_297 : decode cL_law 297 = .ok (.aload_n 1, 1) := by decide +kernel
theorem dL_law_298 : decode cL_law 298 = .ok (.invokevirtual 44, 3) := by decide +kernel
theorem dL_law_301 : decode cL_law 301 = .ok (.aload_n 2, 1) := by decide +kernel
theorem dL_law_302 : decode cL_law 302 = .ok (.invokevirtual 47, 3) := by decide +kernel
theorem dL_law_305 : decode cL_law 305 = .ok (.if_icmp .eq 303, 3) := by decide +kernel
theorem dL_law_308 : decode cL_law 308 = .ok (.iconst 0, 1) := by decide +kernel
theorem dL_law_309 : decode cL_law 309 = .ok (.ireturn, 1) := by decide +kernel
theorem dL_law_310 : decode cL_law 310 = .ok (.aload_n 1, 1) := by decide +kernel
theorem dL_law_311 : decode cL_law 311 = .ok (.aload_n 0, 1) := by decide +kernel
theorem dL_law_312 : decode cL_law 312 = .ok (.iload_n 3, 1) := by decide +kernel
theorem dL_law_313 : decode cL_law 313 = .ok (.iconst 1, 1) := by decide +kernel
theorem dL_law_314 : decode cL_law 314 = .ok (.iadd, 1) := by decide +kernel
theorem dL_law_315 : decode cL_law 315 = .ok (.iaload, 1) := by decide +kernel
theorem dL_law_316 : decode cL_law 316 = .ok (.aload_n 0, 1) := by decide +kernel
theorem dL_law_317 : decode cL_law 317 = .ok (.iload_n 3, 1) := by decide +kernel
theorem dL_law_318 : decode cL_law 318 = .ok (.iconst 2, 1) := by decide +kernel
theorem dL_law_319 : decode cL_law 319 = .ok (.iadd, 1) := by decide +kernel
theorem dL_law_320 : decode cL_law 320 = .ok (.iaload, 1) := by decide +kernel
theorem dL_law_321 : decode cL_law 321 = .ok (.invokevirtual 48, 3) := by decide +kernel
theorem dL_law_324 : decode cL_law 324 = .ok (.aload_n 2, 1) := by decide +kernel
theorem dL_law_325 : decode cL_law 325 = .ok (.aload_n 0, 1) := by decide +kernel
theorem dL_law_326 : decode cL_law 326 = .ok (.iload_n 3, 1) := by decide +kernel
theorem dL_law_327 : decode cL_law 327 = .ok (.iconst 1, 1) := by decide +kernel
theorem dL_law_328 : decode cL_law 328 = .ok (.iadd, 1) := by decide +kernel
theorem dL_law_329 : decode cL_law 329 = .ok (.iaload, 1) := by decide +kernel
theorem dL_law_330 : decode cL_law 330 = .ok (.aload_n 0, 1) := by decide +kernel
theorem dL_law_331 : decode cL_law 331 = .ok (.iload_n 3, 1) := by decide +kernel
theorem dL_law_332 : decode cL_law 332 = .ok (.iconst 2, 1) := by decide +kernel
theorem dL_law_333 : decode cL_law 333 = .ok (.iadd, 1) := by decide +kernel
theorem dL_law_334 : decode cL_law 334 = .ok (.iaload, 1) := by decide +kernel
theorem dL_law_335 : decode cL_law 335 = .ok (.invokevirtual 52, 3) := by decide +kernel
theorem dL_law_338 : decode cL_law 338 = .ok (.if_icmp .eq 270, 3) := by decide +kernel
theorem dL_law_341 : decode cL_law 341 = .ok (.iconst 0, 1) := by decide +kernel
theorem dL_law_342 : decode cL_law 342 = .ok (.ireturn, 1) := by decide +kernel
theorem dL_law_343 : decode cL_law 343 = .ok (.aload_n 1, 1) := by decide +kernel
theorem dL_law_344 : decode cL_law 344 = .ok (.aload_n 0, 1) := by decide +kernel
theorem dL_law_345 : decode cL_law 345 = .ok (.iload_n 3, 1) := by decide +kernel
theorem dL_law_346 : decode cL_law 346 = .ok (.iconst 1, 1) := by decide +kernel
theorem dL_law_347 : decode cL_law 347 = .ok (.iadd, 1) := by decide +kernel
theorem dL_law_348 : decode cL_law 348 = .ok (.iaload, 1) := by decide +kernel
theorem dL_law_349 : decode cL_law 349 = .ok (.invokevirtual 53, 3) := by decide +kernel
theorem dL_law_352 : decode cL_law 352 = .ok (.aload_n 2, 1) := by decide +kernel
theorem dL_law_353 : decode cL_law 353 = .ok (.aload_n 0, 1) := by decide +kernel
theorem dL_law_354 : decode cL_law 354 = .ok (.iload_n 3, 1) := by decide +kernel
theorem dL_law_355 : decode cL_law 355 = .ok (.iconst 1, 1) := by decide +kernel
theorem dL_law_356 : decode cL_law 356 = .ok (.iadd, 1) := by decide +kernel
theorem dL_law_357 : decode cL_law 357 = .ok (.iaload, 1) := by decide +kernel
theorem dL_law_358 : decode cL_law 358 = .ok (.invokevirtual 56, 3) := by decide +kernel
theorem dL_law_361 : decode cL_law 361 = .ok (.if_icmp .eq 247, 3) := by decide +kernel
theorem dL_law_364 : decode cL_law 364 = .ok (.iconst 0, 1) := by decide +kernel
theorem dL_law_365 : decode cL_law 365 = .ok (.ireturn, 1) := by decide +kernel
theorem dL_law_366 : decode cL_law 366 = .ok (.aload_n 1, 1) := by decide +kernel
theorem dL_law_367 : decode cL_law 367 = .ok (.aload_n 0, 1) := by decide +kernel
theorem dL_law_368 : decode cL_law 368 = .ok (.iload_n 3, 1) := by decide +kernel
theorem dL_law_369 : decode cL_law 369 = .ok (.iconst 1, 1) := by decide +kernel
theorem dL_law_370 : decode cL_law 370 = .ok (.iadd, 1) := by decide +kernel
theorem dL_law_371 : decode cL_law 371 = .ok (.iaload, 1) := by decide +kernel
theorem dL_law_372 : decode cL_law 372 = .ok (.aload_n 0, 1) := by decide +kernel
theorem dL_law_373 : decode cL_law 373 = .ok (.iload_n 3, 1) := by decide +kernel
theorem dL_law_374 : decode cL_law 374 = .ok (.iconst 2, 1) := by decide +kernel
theorem dL_law_375 : decode cL_law 375 = .ok (.iadd, 1) := by decide +kernel
theorem dL_law_376 : decode cL_law 376 = .ok (.iaload, 1) := by decide +kernel
theorem dL_law_377 : decode cL_law 377 = .ok (.aload_n 0, 1) := by decide +kernel
theorem dL_law_378 : decode cL_law 378 = .ok (.iload_n 3, 1) := by decide +kernel
theorem dL_law_379 : decode cL_law 379 = .ok (.iconst 3, 1) := by decide +kernel
theorem dL_law_380 : decode cL_law 380 = .ok (.iadd, 1) := by decide +kernel
theorem dL_law_381 : decode cL_law 381 = .ok (.iaload, 1) := by decide +kernel
theorem dL_law_382 : decode cL_law 382 = .ok (.invokevirtual 57, 3) := by decide +kernel
theorem dL_law_385 : decode cL_law 385 = .ok (.aload_n 2, 1) := by decide +kernel
theorem dL_law_386 : decode cL_law 386 = .ok (.aload_n 0, 1) := by decide +kernel
theorem dL_law_387 : decode cL_law 387 = .ok (.iload_n 3, 1) := by decide +kernel
theorem dL_law_388 : decode cL_law 388 = .ok (.iconst 1, 1) := by decide +kernel
theorem dL_law_389 : decode cL_law 389 = .ok (.iadd, 1) := by decide +kernel
theorem dL_law_390 : decode cL_law 390 = .ok (.iaload, 1) := by decide +kernel
theorem dL_law_391 : decode cL_law 391 = .ok (.aload_n 0, 1) := by decide +kernel
theorem dL_law_392 : decode cL_law 392 = .ok (.iload_n 3, 1) := by decide +kernel
theorem dL_law_393 : decode cL_law 393 = .ok (.iconst 2, 1) := by decide +kernel
theorem dL_law_394 : decode cL_law 394 = .ok (.iadd, 1) := by decide +kernel
theorem dL_law_395 : decode cL_law 395 = .ok (.iaload, 1) := by decide +kernel
theorem dL_law_396 : decode cL_law 396 = .ok (.aload_n 0, 1) := by decide +kernel
theorem dL_law_397 : decode cL_law 397 = .ok (.iload_n 3, 1) := by decide +kernel
theorem dL_law_398 : decode cL_law 398 = .ok (.iconst 3, 1) := by decide +kernel
theorem dL_law_399 : decode cL_law 399 = .ok (.iadd, 1) := by decide +kernel
theorem dL_law_400 : decode cL_law 400 = .ok (.iaload, 1) := by decide +kernel
theorem dL_law_401 : decode cL_law 401 = .ok (.invokevirtual 60, 3) := by decide +kernel
theorem dL_law_404 : decode cL_law 404 = .ok (.if_icmp .eq 204, 3) := by decide +kernel
theorem dL_law_407 : decode cL_law 407 = .ok (.iconst 0, 1) := by decide +kernel
theorem dL_law_408 : decode cL_law 408 = .ok (.ireturn, 1) := by decide +kernel
theorem dL_law_409 : decode cL_law 409 = .ok (.aload_n 1, 1) := by decide +kernel
theorem dL_law_410 : decode cL_law 410 = .ok (.aload_n 0, 1) := by decide +kernel
theorem dL_law_411 : decode cL_law 411 = .ok (.iload_n 3, 1) := by decide +kernel
theorem dL_law_412 : decode cL_law 412 = .ok (.iconst 1, 1) := by decide +kernel
theorem dL_law_413 : decode cL_law 413 = .ok (.iadd, 1) := by decide +kernel
theorem dL_law_414 : decode cL_law 414 = .ok (.iaload, 1) := by decide +kernel
theorem dL_law_415 : decode cL_law 415 = .ok (.invokevirtual 61, 3) := by decide +kernel
theorem dL_law_418 : decode cL_law 418 = .ok (.aload_n 2, 1) := by decide +kernel
theorem dL_law_419 : decode cL_law 419 = .ok (.aload_n 0, 1) := by decide +kernel
theorem dL_law_420 : decode cL_law 420 = .ok (.iload_n 3, 1) := by decide +kernel
theorem dL_law_421 : decode cL_law 421 = .ok (.iconst 1, 1) := by decide +kernel
theorem dL_law_422 : decode cL_law 422 = .ok (.iadd, 1) := by decide +kernel
theorem dL_law_423 : decode cL_law 423 = .ok (.iaload, 1) := by decide +kernel
theorem dL_law_424 : decode cL_law 424 = .ok (.invokevirtual 64, 3) := by decide +kernel
theorem dL_law_427 : decode cL_law 427 = .ok (.if_icmp .eq 181, 3) := by decide +kernel
theorem dL_law_430 : decode cL_law 430 = .ok (.iconst 0, 1) := by decide +kernel
theorem dL_law_431 : decode cL_law 431 = .ok (.ireturn, 1) := by decide +kernel
theorem dL_law_432 : decode cL_law 432 = .ok (.aload_n 1, 1) := by decide +kernel
theorem dL_law_433 : decode cL_law 433 = .ok (.aload_n 0, 1) := by decide +kernel
theorem dL_law_434 : decode cL_law 434 = .ok (.iload_n 3, 1) := by decide +kernel
theorem dL_law_435 : decode cL_law 435 = .ok (.iconst 1, 1) := by decide +kernel
theorem dL_law_436 : decode cL_law 436 = .ok (.iadd, 1) := by decide +kernel
theorem dL_law_437 : decode cL_law 437 = .ok (.iaload, 1) := by decide +kernel
theorem dL_law_438 : decode cL_law 438 = .ok (.aload_n 0, 1) := by decide +kernel
theorem dL_law_439 : decode cL_law 439 = .ok (.iload_n 3, 1) := by decide +kernel
theorem dL_law_440 : decode cL_law 440 = .ok (.iconst 2, 1) := by decide +kernel
theorem dL_law_441 : decode cL_law 441 = .ok (.iadd, 1) := by decide +kernel
theorem dL_law_442 : decode cL_law 442 = .ok (.iaload, 1) := by decide +kernel
theorem dL_law_443 : decode cL_law 443 = .ok (.aload_n 0, 1) := by decide +kernel
theorem dL_law_444 : decode cL_law 444 = .ok (.iload_n 3, 1) := by decide +kernel
theorem dL_law_445 : decode cL_law 445 = .ok (.iconst 3, 1) := by decide +kernel
theorem dL_law_446 : decode cL_law 446 = .ok (.iadd, 1) := by decide +kernel
theorem dL_law_447 : decode cL_law 447 = .ok (.iaload, 1) := by decide +kernel
theorem dL_law_448 : decode cL_law 448 = .ok (.invokevirtual 65, 3) := by decide +kernel
theorem dL_law_451 : decode cL_law 451 = .ok (.aload_n 2, 1) := by decide +kernel
theorem dL_law_452 : decode cL_law 452 = .ok (.aload_n 0, 1) := by decide +kernel
theorem dL_law_453 : decode cL_law 453 = .ok (.iload_n 3, 1) := by decide +kernel
theorem dL_law_454 : decode cL_law 454 = .ok (.iconst 1, 1) := by decide +kernel
theorem dL_law_455 : decode cL_law 455 = .ok (.iadd, 1) := by decide +kernel
theorem dL_law_456 : decode cL_law 456 = .ok (.iaload, 1) := by decide +kernel
theorem dL_law_457 : decode cL_law 457 = .ok (.aload_n 0, 1) := by decide +kernel
theorem dL_law_458 : decode cL_law 458 = .ok (.iload_n 3, 1) := by decide +kernel
theorem dL_law_459 : decode cL_law 459 = .ok (.iconst 2, 1) := by decide +kernel
theorem dL_law_460 : decode cL_law 460 = .ok (.iadd, 1) := by decide +kernel
theorem dL_law_461 : decode cL_law 461 = .ok (.iaload, 1) := by decide +kernel
theorem dL_law_462 : decode cL_law 462 = .ok (.aload_n 0, 1) := by decide +kernel
theorem dL_law_463 : decode cL_law 463 = .ok (.iload_n 3, 1) := by decide +kernel
theorem dL_law_464 : decode cL_law 464 = .ok (.iconst 3, 1) := by decide +kernel
theorem dL_law_465 : decode cL_law 465 = .ok (.iadd, 1) := by decide +kernel
theorem dL_law_466 : decode cL_law 466 = .ok (.iaload, 1) := by decide +kernel
theorem dL_law_467 : decode cL_law 467 = .ok (.invokevirtual 68, 3) := by decide +kernel
theorem dL_law_470 : decode cL_law 470 = .ok (.if_icmp .eq 138, 3) := by decide +kernel
theorem dL_law_473 : decode cL_law 473 = .ok (.iconst 0, 1) := by decide +kernel
theorem dL_law_474 : decode cL_law 474 = .ok (.ireturn, 1) := by decide +kernel
theorem dL_law_475 : decode cL_law 475 = .ok (.aload_n 1, 1) := by decide +kernel
theorem dL_law_476 : decode cL_law 476 = .ok (.aload_n 0, 1) := by decide +kernel
theorem dL_law_477 : decode cL_law 477 = .ok (.iload_n 3, 1) := by decide +kernel
theorem dL_law_478 : decode cL_law 478 = .ok (.iconst 1, 1) := by decide +kernel
theorem dL_law_479 : decode cL_law 479 = .ok (.iadd, 1) := by decide +kernel
theorem dL_law_480 : decode cL_law 480 = .ok (.iaload, 1) := by decide +kernel
theorem dL_law_481 : decode cL_law 481 = .ok (.aload_n 0, 1) := by decide +kernel
theorem dL_law_482 : decode cL_law 482 = .ok (.iload_n 3, 1) := by decide +kernel
theorem dL_law_483 : decode cL_law 483 = .ok (.iconst 2, 1) := by decide +kernel
theorem dL_law_484 : decode cL_law 484 = .ok (.iadd, 1) := by decide +kernel
theorem dL_law_485 : decode cL_law 485 = .ok (.iaload, 1) := by decide +kernel
theorem dL_law_486 : decode cL_law 486 = .ok (.invokevirtual 69, 3) := by decide +kernel
theorem dL_law_489 : decode cL_law 489 = .ok (.aload_n 2, 1) := by decide +kernel
theorem dL_law_490 : decode cL_law 490 = .ok (.aload_n 0, 1) := by decide +kernel
theorem dL_law_491 : decode cL_law 491 = .ok (.iload_n 3, 1) := by decide +kernel
theorem dL_law_492 : decode cL_law 492 = .ok (.iconst 1, 1) := by decide +kernel
theorem dL_law_493 : decode cL_law 493 = .ok (.iadd, 1) := by decide +kernel
theorem dL_law_494 : decode cL_law 494 = .ok (.iaload, 1) := by decide +kernel
theorem dL_law_495 : decode cL_law 495 = .ok (.aload_n 0, 1) := by decide +kernel
theorem dL_law_496 : decode cL_law 496 = .ok (.iload_n 3, 1) := by decide +kernel
theorem dL_law_497 : decode cL_law 497 = .ok (.iconst 2, 1) := by decide +kernel
theorem dL_law_498 : decode cL_law 498 = .ok (.iadd, 1) := by decide +kernel
theorem dL_law_499 : decode cL_law 499 = .ok (.iaload, 1) := by decide +kernel
theorem dL_law_500 : decode cL_law 500 = .ok (.invokevirtual 72, 3) := by decide +kernel
theorem dL_law_503 : decode cL_law 503 = .ok (.if_icmp .eq 105, 3) := by decide +kernel
theorem dL_law_506 : decode cL_law 506 = .ok (.iconst 0, 1) := by decide +kernel
theorem dL_law_507 : decode cL_law 507 = .ok (.ireturn, 1) := by decide +kernel
theorem dL_law_508 : decode cL_law 508 = .ok (.aload_n 1, 1) := by decide +kernel
theorem dL_law_509 : decode cL_law 509 = .ok (.aload_n 0, 1) := by decide +kernel
theorem dL_law_510 : decode cL_law 510 = .ok (.iload_n 3, 1) := by decide +kernel
theorem dL_law_511 : decode cL_law 511 = .ok (.iconst 1, 1) := by decide +kernel
theorem dL_law_512 : decode cL_law 512 = .ok (.iadd, 1) := by decide +kernel
theorem dL_law_513 : decode cL_law 513 = .ok (.iaload, 1) := by decide +kernel
theorem dL_law_514 : decode cL_law 514 = .ok (.invokevirtual 73, 3) := by decide +kernel
theorem dL_law_517 : decode cL_law 517 = .ok (.aload_n 2, 1) := by decide +kernel
theorem dL_law_518 : decode cL_law 518 = .ok (.aload_n 0, 1) := by decide +kernel
theorem dL_law_519 : decode cL_law 519 = .ok (.iload_n 3, 1) := by decide +kernel
theorem dL_law_520 : decode cL_law 520 = .ok (.iconst 1, 1) := by decide +kernel
theorem dL_law_521 : decode cL_law 521 = .ok (.iadd, 1) := by decide +kernel
theorem dL_law_522 : decode cL_law 522 = .ok (.iaload, 1) := by decide +kernel
theorem dL_law_523 : decode cL_law 523 = .ok (.invokevirtual 76, 3) := by decide +kernel
theorem dL_law_526 : decode cL_law 526 = .ok (.if_icmp .eq 82, 3) := by decide +kernel
theorem dL_law_529 : decode cL_law 529 = .ok (.iconst 0, 1) := by decide +kernel
theorem dL_law_530 : decode cL_law 530 = .ok (.ireturn, 1) := by decide +kernel
theorem dL_law_531 : decode cL_law 531 = .ok (.aload_n 1, 1) := by decide +kernel
theorem dL_law_532 : decode cL_law 532 = .ok (.aload_n 0, 1) := by decide +kernel
theorem dL_law_533 : decode cL_law 533 = .ok (.iload_n 3, 1) := by decide +kernel
theorem dL_law_534 : decode cL_law 534 = .ok (.iconst 1, 1) := by decide +kernel
theorem dL_law_535 : decode cL_law 535 = .ok (.iadd, 1) := by decide +kernel
theorem dL_law_536 : decode cL_law 536 = .ok (.iaload, 1) := by decide +kernel
theorem dL_law_537 : decode cL_law 537 = .ok (.aload_n 0, 1) := by decide +kernel
theorem dL_law_538 : decode cL_law 538 = .ok (.iload_n 3, 1) := by decide +kernel
theorem dL_law_539 : decode cL_law 539 = .ok (.iconst 2, 1) := by decide +kernel
theorem dL_law_540 : decode cL_law 540 = .ok (.iadd, 1) := by decide +kernel
theorem dL_law_541 : decode cL_law 541 = .ok (.iaload, 1) := by decide +kernel
theorem dL_law_542 : decode cL_law 542 = .ok (.aload_n 0, 1) := by decide +kernel
theorem dL_law_543 : decode cL_law 543 = .ok (.iload_n 3, 1) := by decide +kernel
theorem dL_law_544 : decode cL_law 544 = .ok (.iconst 3, 1) := by decide +kernel
theorem dL_law_545 : decode cL_law 545 = .ok (.iadd, 1) := by decide +kernel
theorem dL_law_546 : decode cL_law 546 = .ok (.iaload, 1) := by decide +kernel
theorem dL_law_547 : decode cL_law 547 = .ok (.aload_n 0, 1) := by decide +kernel
theorem dL_law_548 : decode cL_law 548 = .ok (.iload_n 3, 1) := by decide +kernel
theorem dL_law_549 : decode cL_law 549 = .ok (.iconst 4, 1) := by decide +kernel
theorem dL_law_550 : decode cL_law 550 = .ok (.iadd, 1) := by decide +kernel
theorem dL_law_551 : decode cL_law 551 = .ok (.iaload, 1) := by decide +kernel
theorem dL_law_552 : decode cL_law 552 = .ok (.invokevirtual 77, 3) := by decide +kernel
theorem dL_law_555 : decode cL_law 555 = .ok (.aload_n 2, 1) := by decide +kernel
theorem dL_law_556 : decode cL_law 556 = .ok (.aload_n 0, 1) := by decide +kernel
theorem dL_law_557 : decode cL_law 557 = .ok (.iload_n 3, 1) := by decide +kernel
theorem dL_law_558 : decode cL_law 558 = .ok (.iconst 1, 1) := by decide +kernel
theorem dL_law_559 : decode cL_law 559 = .ok (.iadd, 1) := by decide +kernel
theorem dL_law_560 : decode cL_law 560 = .ok (.iaload, 1) := by decide +kernel
theorem dL_law_561 : decode cL_law 561 = .ok (.aload_n 0, 1) := by decide +kernel
theorem dL_law_562 : decode cL_law 562 = .ok (.iload_n 3, 1) := by decide +kernel
theorem dL_law_563 : decode cL_law 563 = .ok (.iconst 2, 1) := by decide +kernel
theorem dL_law_564 : decode cL_law 564 = .ok (.iadd, 1) := by decide +kernel
theorem dL_law_565 : decode cL_law 565 = .ok (.iaload, 1) := by decide +kernel
theorem dL_law_566 : decode cL_law 566 = .ok (.aload_n 0, 1) := by decide +kernel
theorem dL_law_567 : decode cL_law 567 = .ok (.iload_n 3, 1) := by decide +kernel
theorem dL_law_568 : decode cL_law 568 = .ok (.iconst 3, 1) := by decide +kernel
theorem dL_law_569 : decode cL_law 569 = .ok (.iadd, 1) := by decide +kernel
theorem dL_law_570 : decode cL_law 570 = .ok (.iaload, 1) := by decide +kernel
theorem dL_law_571 : decode cL_law 571 = .ok (.aload_n 0, 1) := by decide +kernel
theorem dL_law_572 : decode cL_law 572 = .ok (.iload_n 3, 1) := by decide +kernel
theorem dL_law_573 : decode cL_law 573 = .ok (.iconst 4, 1) := by decide +kernel
theorem dL_law_574 : decode cL_law 574 = .ok (.iadd, 1) := by decide +kernel
theorem dL_law_575 : decode cL_law 575 = .ok (.iaload, 1) := by decide +kernel
theorem dL_law_576 : decode cL_law 576 = .ok (.invokevirtual 81, 3) := by decide +kernel
theorem dL_law_579 : decode cL_law 579 = .ok (.lcmp, 1) := by decide +kernel
theorem dL_law_580 : decode cL_law 580 = .ok (.ifCond .eq 28, 3) := by decide +kernel
theorem dL_law_583 : decode cL_law 583 = .ok (.iconst 0, 1) := by decide +kernel
theorem dL_law_584 : decode cL_law 584 = .ok (.ireturn, 1) := by decide +kernel
theorem dL_law_585 : decode cL_law 585 = .ok (.aload_n 1, 1) := by decide +kernel
theorem dL_law_586 : decode cL_law 586 = .ok (.aload_n 0, 1) := by decide +kernel
theorem dL_law_587 : decode cL_law 587 = .ok (.iload_n 3, 1) := by decide +kernel
theorem dL_law_588 : decode cL_law 588 = .ok (.iconst 1, 1) := by decide +kernel
theorem dL_law_589 : decode cL_law 589 = .ok (.iadd, 1) := by decide +kernel
theorem dL_law_590 : decode cL_law 590 = .ok (.iaload, 1) := by decide +kernel
theorem dL_law_591 : decode cL_law 591 = .ok (.invokevirtual 82, 3) := by decide +kernel
theorem dL_law_594 : decode cL_law 594 = .ok (.aload_n 2, 1) := by decide +kernel
theorem dL_law_595 : decode cL_law 595 = .ok (.aload_n 0, 1) := by decide +kernel
theorem dL_law_596 : decode cL_law 596 = .ok (.iload_n 3, 1) := by decide +kernel
theorem dL_law_597 : decode cL_law 597 = .ok (.iconst 1, 1) := by decide +kernel
theorem dL_law_598 : decode cL_law 598 = .ok (.iadd, 1) := by decide +kernel
theorem dL_law_599 : decode cL_law 599 = .ok (.iaload, 1) := by decide +kernel
theorem dL_law_600 : decode cL_law 600 = .ok (.invokevirtual 85, 3) := by decide +kernel
theorem dL_law_603 : decode cL_law 603 = .ok (.if_icmp .eq 5, 3) := by decide +kernel
theorem dL_law_606 : decode cL_law 606 = .ok (.iconst 0, 1) := by decide +kernel
theorem dL_law_607 : decode cL_law 607 = .ok (.ireturn, 1) := by decide +kernel
theorem dL_law_608 : decode cL_law 608 = .ok (.iinc 3 5, 3) := by decide +kernel
theorem dL_law_611 : decode cL_law 611 = .ok (.goto (-593), 3) := by decide +kernel
theorem dL_law_614 : decode cL_law 614 = .ok (.iconst 1, 1) := by decide +kernel
theorem dL_law_615 : decode cL_law 615 = .ok (.ireturn, 1) := by decide +kernel
end
section
/-! ===== a calculus of its own over the kit's rows: a heap of cells as a function, locals and stack as lists, one judgement V for a frame, one Cn for a call ===== -/
abbrev hpT : Type := Nat → Option va_E
def hpS (h : hpT) (a : Nat) (e : va_E) : hpT := fun j => if j = a then some e else h j
theorem hpS_self (h : hpT) (a : Nat) (e : va_E) : hpS h a e a = some e := by simp [hpS]
theorem hpS_ne (h : hpT) {a j : Nat} (e : va_E) (hj : j ≠ a) : hpS h a e j = h j := by simp [hpS, hj]
abbrev zGT : Type := va_G × ClassId × ClassId × ClassId
abbrev ztys (G : zGT) : List (ClassId × FieldType) := [(G.2.1, .int), (G.2.2.1, .long), (G.2.2.2, .object RX0)]
def aI (G : zGT) (n : Nat) (f : Nat → Int32) : va_E := .inl (G.2.1, n, .inl f)
def aJ (G : zGT) (n : Nat) (f : Nat → Int64) : va_E := .inl (G.2.2.1, n, .inr (.inl f))
def aR (G : zGT) (n : Nat) (f : Nat → Option Nat) : va_E := .inl (G.2.2.2, n, .inr (.inr (.inr (.inr f))))
def ob (ci : Nat) (fs : List Value) : va_E := .inr (ci, fs)
def zP (G : zGT) (h : hpT) (H : Heap) : Prop := ∀ a e, h a = some e → va_at G.1 vwCl (a, e) H
def zNestB : Cond → Bool
  | .fieldLinkNest _ _ _ _ _ _ => true
  | .methodLinkNest _ _ _ _ => true
  | _ => false
def zW (w : Cond) : Prop := w ∈ lw_tbl ∧ (goodWord w || zNestB w) = true
def zws : List Cond := lw_tbl.filter goodWord
/-- what the tables say beside the good words -/
def zNF (U : State) : Prop := (∀ w ∈ lw_tbl, zNestB w = true → va_Nw w U) ∧ va_AO RX0 U
theorem zNest_on {w : Cond} (h : zNestB w = true) : w.onTables = true := by
  cases w <;> first | rfl | (simp [zNestB] at h; done)
theorem zNF.warm {s U : State} (hW : s.WarmedH U.vm) (h : zNF s) : zNF U := by
  refine ⟨fun w hw hn => ?_, h.2.moved hW.alike⟩
  have h1 := h.1 w hw hn
  cases w <;> first | exact va_Nw.warmF hW h1 | exact va_Nw.warmM hW h1 | (simp [zNestB] at hn; done)
theorem zNF.same {u U : State} (hv : u.vm = U.vm) (h : zNF u) : zNF U := by
  refine ⟨fun w hw hn => va_Nw.same (zNest_on hn) hv (h.1 w hw hn), h.2.moved ?_⟩
  rw [hv]
  exact Vm.Alike.refl _
/-- the constants of a frame -/
def zB (G : zGT) (own : String) (cc : ByteArray) (nL : Nat) (rt : Option FieldType) (ini : Bool) (d : Nat) (p : Program) (R : Room) (s : State) (m : MethodId) (args : Array Value) (meth : Method) (c : Code) (A : Nat → Prop) : Prop :=
  p.tables.exec = Jvm.exec ∧ c.code = cc ∧ c.maxLocals = nL ∧ s.vm.findClass own = some m.cls ∧ (∀ w, zW w → w.before args s = true) ∧ va_K G.1 vwCl (ztys G) s ∧ zNF s ∧ meth.sig.returnType = rt ∧ meth.locks = false ∧ (ini = true → meth.name = "<init>") ∧ (∀ q, s.heap.size ≤ q → A q) ∧ d ≤ R.frames ∧ 40 * d ≤ R.locals
/-- the heap of a frame -/
def zH (G : zGT) (h : hpT) (sz : Nat) (A : Nat → Prop) (s : State) (H : Heap) (locs : List Loc) : Prop :=
  zP G h H ∧ (∀ a e, h a = some e → A a) ∧ H.size = sz ∧ va_S A s.heap H locs
def zget : List (Option Value) → Nat → Option Value
  | [], _ => none
  | a :: _, 0 => a
  | _ :: t, n + 1 => zget t n
def zset : List (Option Value) → Nat → Option Value → List (Option Value)
  | [], 0, v => [v]
  | [], n + 1, v => none :: zset [] n v
  | _ :: t, 0, v => v :: t
  | a :: t, n + 1, v => a :: zset t n v
theorem zget_set : ∀ (lv : List (Option Value)) (i j : Nat) (v : Option Value), zget (zset lv i v) j = if j = i then v else zget lv j
  | [], 0, 0, v => rfl
  | [], 0, j + 1, v => by simp [zset, zget]
  | [], i + 1, 0, v => by simp [zset, zget]
  | [], i + 1, j + 1, v => by simp [zset, zget, zget_set [] i j v]
  | a :: t, 0, 0, v => rfl
  | a :: t, 0, j + 1, v => by simp [zset, zget]
  | a :: t, i + 1, 0, v => by simp [zset, zget]
  | a :: t, i + 1, j + 1, v => by simp [zset, zget, zget_set t i j v]
/-- no long stands just ahead of the slot -/
def zok : List (Option Value) → Nat → Bool
  | [], _ => true
  | _, 0 => true
  | a :: _, 1 => match a with
    | some (.long _) => false
    | some (.double _) => false
    | _ => true
  | _ :: t, n + 2 => zok t (n + 1)
theorem zok_get : ∀ (lv : List (Option Value)) (i : Nat) (v : Value), zok lv (i + 1) = true → zget lv i = some v → ¬ v.category = 2
  | [], i, v, _, h => by simp [zget] at h
  | a :: t, 0, v, h, hg => by
    simp only [zget] at hg
    subst hg
    cases v <;> simp [zok, Value.category] at h ⊢
  | a :: t, i + 1, v, h, hg => zok_get t i v (by simpa [zok] using h) (by simpa [zget] using hg)
def zLv (ls : Array Slot) (nL : Nat) (lv : List (Option Value)) : Prop := ls.size = nL ∧ lv_wf ls ∧ ∀ i v, zget lv i = some v → ls[i]? = some (.val v)
/-- the kit's list of the locals that are known -/
def zprs : Nat → List (Option Value) → List (Nat × Value)
  | _, [] => []
  | k, some v :: t => (k, v) :: zprs (k + 1) t
  | k, none :: t => zprs (k + 1) t
theorem zprs_mem : ∀ (lv : List (Option Value)) (k : Nat) (q : Nat × Value), q ∈ zprs k lv ↔ ∃ i, q.1 = k + i ∧ zget lv i = some q.2
  | [], k, q => by simp [zprs, zget]
  | some v :: t, k, q => by
    rw [zprs, List.mem_cons, zprs_mem t (k + 1) q]
    constructor
    · rintro (rfl | ⟨i, h1, h2⟩)
      · exact ⟨0, rfl, rfl⟩
      · exact ⟨i + 1, by omega, h2⟩
    · rintro ⟨i, h1, h2⟩
      cases i with
      | zero =>
        left
        obtain ⟨a, b⟩ := q
        simp only [zget, Option.some.injEq] at h2
        simp only at h1
        rw [h2, h1]
        rfl
      | succ i => exact Or.inr ⟨i, by omega, h2⟩
  | none :: t, k, q => by
    rw [zprs, zprs_mem t (k + 1) q]
    constructor
    · rintro ⟨i, h1, h2⟩
      exact ⟨i + 1, by omega, h2⟩
    · rintro ⟨i, h1, h2⟩
      cases i with
      | zero => simp [zget] at h2
      | succ i => exact ⟨i, by omega, h2⟩
theorem zLv.has {ls : Array Slot} {nL : Nat} {lv : List (Option Value)} (h : zLv ls nL lv) : lv_has ls nL (zprs 0 lv) := by
  refine ⟨h.1, h.2.1, fun q hq => ?_⟩
  obtain ⟨i, h1, h2⟩ := (zprs_mem lv 0 q).mp hq
  rw [show q.1 = i by omega]
  exact h.2.2 i q.2 h2
theorem zLv.st1 {ls : Array Slot} {nL : Nat} {lv : List (Option Value)} {i : Nat} {v : Value} (hok : zok lv i = true) (h : lv_has ls nL ((i, v) :: (zprs 0 lv).filter (fun q => !(q.1 == i) && !(q.1 + 1 == i && q.2.category == 2)))) : zLv ls nL (zset lv i (some v)) := by
  refine ⟨h.1, h.2.1, fun j w hj => ?_⟩
  rw [zget_set] at hj
  by_cases e : j = i
  · subst e
    rw [if_pos rfl] at hj
    cases hj
    exact h.2.2 (j, v) List.mem_cons_self
  · rw [if_neg e] at hj
    refine h.2.2 (j, w) (List.mem_cons_of_mem _ (List.mem_filter.mpr ⟨(zprs_mem lv 0 (j, w)).mpr ⟨j, by simp, hj⟩, ?_⟩))
    have h2 : ¬ (j + 1 = i ∧ w.category = 2) := by
      rintro ⟨rfl, hc⟩
      exact zok_get lv j w hok hj hc
    simp only [Bool.and_eq_true, Bool.not_eq_true', beq_eq_false_iff_ne, ne_eq, Bool.and_eq_false_iff]
    refine ⟨e, ?_⟩
    by_cases e2 : j + 1 = i
    · exact Or.inr (fun q => h2 ⟨e2, q⟩)
    · exact Or.inl e2
theorem zLv.st2 {ls : Array Slot} {nL : Nat} {lv : List (Option Value)} {i : Nat} {v : Value} (hok : zok lv i = true) (h : lv_has ls nL ((i, v) :: (zprs 0 lv).filter (fun q => !(q.1 == i) && (!(q.1 == i + 1) && !(q.1 + 1 == i && q.2.category == 2))))) : zLv ls nL (zset (zset lv (i + 1) none) i (some v)) := by
  refine ⟨h.1, h.2.1, fun j w hj => ?_⟩
  rw [zget_set, zget_set] at hj
  by_cases e : j = i
  · subst e
    rw [if_pos rfl] at hj
    cases hj
    exact h.2.2 (j, v) List.mem_cons_self
  · rw [if_neg e] at hj
    by_cases e1 : j = i + 1
    · rw [if_pos e1] at hj
      cases hj
    · rw [if_neg e1] at hj
      refine h.2.2 (j, w) (List.mem_cons_of_mem _ (List.mem_filter.mpr ⟨(zprs_mem lv 0 (j, w)).mpr ⟨j, by simp, hj⟩, ?_⟩))
      have h2 : ¬ (j + 1 = i ∧ w.category = 2) := by
        rintro ⟨rfl, hc⟩
        exact zok_get lv j w hok hj hc
      simp only [Bool.and_eq_true, Bool.not_eq_true', beq_eq_false_iff_ne, ne_eq, Bool.and_eq_false_iff]
      refine ⟨e, e1, ?_⟩
      by_cases e2 : j + 1 = i
      · exact Or.inr (fun q => h2 ⟨e2, q⟩)
      · exact Or.inl e2
def zent : List Value → List (Option Value)
  | [] => []
  | .long x :: t => some (.long x) :: none :: zent t
  | .double x :: t => some (.double x) :: none :: zent t
  | .int x :: t => some (.int x) :: zent t
  | .ref x :: t => some (.ref x) :: zent t
  | v :: t => some v :: zent t
/-- the end of a method -/
def zQ (G : zGT) (Post : Option Value → hpT → Nat → Prop) (A : Nat → Prop) : Array Value → State → Outcome → State → Prop := fun _ st oc t =>
  ∃ (r : Option Value) (h : hpT) (sz : Nat), oc = .returned r ∧ Post r h sz ∧ zP G h t.heap ∧ (∀ a e, h a = some e → A a) ∧ t.heap.size = sz ∧ va_F A st t
def zA (h : hpT) (sz : Nat) : Nat → Prop := fun q => (∃ e, h q = some e) ∨ sz ≤ q
/-- a frame at pc goes on to the method's end -/
def V (l : Launch) (G : zGT) (own : String) (cc : ByteArray) (nL : Nat) (rt : Option FieldType) (ini : Bool) (d kc ks : Nat) (Post : Option Value → hpT → Nat → Prop) (pc : Nat) (lv : List (Option Value)) (st : List Value) (h : hpT) (sz : Nat) : Prop :=
  ∀ (p : Program) (e : Env) (R : Room) (s : State) (m : MethodId) (args : Array Value) (below : List Frame) (meth : Method) (c : Code) (A : Nat → Prop), zB G own cc nL rt ini d p R s m args meth c A →
  ∀ (H : Heap) (locs : List Loc) (cells slots : Nat) (ls : Array Slot), zH G h sz A s H locs → zLv ls nL lv → cells + kc ≤ R.cells → slots + ks ≤ R.slots →
  W p l e R s m args below meth c H locs cells slots (MQ below (zQ G Post A) args s R.cells R.slots A) (F0 m pc ls st)
/-- a call, from its arguments and the heap -/
def Cn (l : Launch) (G : zGT) (y : MethodName) (cc : ByteArray) (nL : Nat) (rt : Option FieldType) (d kc ks : Nat) (args : List Value) (h : hpT) (sz : Nat) (Post : Option Value → hpT → Nat → Prop) : Prop :=
  Met l y (.code y cc nL rt :: zws) { frames := d, cells := kc, slots := ks, locals := 40 * d } (va_Pc args (fun U => zP G h U.heap ∧ U.heap.size = sz ∧ va_K G.1 vwCl (ztys G) U ∧ zNF U)) (zQ G Post (zA h sz)) kc ks (zA h sz)
theorem zargs_mem : ∀ (vs : List Value) (k i : Nat) (v : Value), zget (zent vs) i = some v → (k + i, v) ∈ lv_args k vs
  | [], k, i, v, h => by simp [zent, zget] at h
  | a :: t, k, i, v, h => by
    have c2 : ∀ (i : Nat), a.category = 2 → zget (some a :: none :: zent t) i = some v → (k + i, v) ∈ lv_args k (a :: t) := by
      intro i hc h
      rw [lv_args, if_pos hc]
      match i, h with
      | 0, h => simp only [zget, Option.some.injEq] at h; rw [h]; exact List.mem_cons_self
      | 1, h => simp [zget] at h
      | j + 2, h => exact List.mem_cons_of_mem _ (by have := zargs_mem t (k + 2) j v h; rwa [show k + 2 + j = k + (j + 2) by omega] at this)
    have c1 : ∀ (i : Nat), ¬ a.category = 2 → zget (some a :: zent t) i = some v → (k + i, v) ∈ lv_args k (a :: t) := by
      intro i hc h
      rw [lv_args, if_neg hc]
      match i, h with
      | 0, h => simp only [zget, Option.some.injEq] at h; rw [h]; exact List.mem_cons_self
      | j + 1, h => exact List.mem_cons_of_mem _ (by have := zargs_mem t (k + 1) j v h; rwa [show k + 1 + j = k + (j + 1) by omega] at this)
    cases a <;> first | exact c2 i rfl h | exact c1 i (by simp [Value.category]) h
set_option maxHeartbeats 1000000 in
theorem Cn.of {l : Launch} {G : zGT} {y : MethodName} {cc : ByteArray} {nL : Nat} {rt : Option FieldType} {d kc ks : Nat} {args : List Value} {h : hpT} {sz : Nat} {Post : Option Value → hpT → Nat → Prop} (own : String) (ini : Bool) (hy : plainName y.cls = true) (hown : y.cls = own) (hini : ini = true → y.name = "<init>") (hlen : (lg_sl args).length ≤ nL)
    (hV : V l G own cc nL rt ini d kc ks Post 0 (zent args) [] h sz) : Cn l G y cc nL rt d kc ks args h sz Post := by
  subst hown
  refine Met.ofW (cc := cc) (maxL := nL) (ret := rt) hy rfl ?_
  intro p e s m args' below meth c s₁ B hml hv
  obtain ⟨rfl, hP, hsz, hK, hN⟩ := hv
  have hts := atoms_spec (ws := .code y cc nL rt :: zws) B.pre
  have hl := lv_entry args (n := nL) hlen
  rw [lg_entry_eq]
  refine hV p e _ s m args.toArray below meth c (zA h sz) ⟨B.exec, B.bytes, hml, findClass_of_methodNamed B.named, fun w hw => ?_, hK, hN, B.returns, B.notSynchronized, fun hi => (name_of_methodNamed B.named B.method).1.trans (hini hi), fun q hq => Or.inr (by rw [← hsz]; exact hq), Nat.le_refl d, Nat.le_refl (40 * d)⟩ s.heap [] 0 0 _ ⟨hP, fun a e ha => Or.inl ⟨e, ha⟩, hsz, va_S.rf⟩ ⟨hl.1, hl.2.1, fun i v hi => ?_⟩ (by simp [headSpec]) (by simp [headSpec])
  · obtain ⟨h1, h2⟩ := hw
    rcases Bool.or_eq_true_iff.mp h2 with h3 | h3
    · exact hts w (List.mem_cons_of_mem _ (List.mem_filter.mpr ⟨h1, h3⟩))
    · exact va_Nw.use (zNest_on h3) (hN.1 w h1 h3)
  · have := hl.2.2 (i, v) (by have := zargs_mem args 0 i v hi; rwa [Nat.zero_add] at this)
    exact this
end
section
section VR
variable {l : Launch} {G : zGT} {own : String} {cc : ByteArray} {nL : Nat} {rt : Option FieldType} {ini : Bool} {d kc ks : Nat} {Post : Option Value → hpT → Nat → Prop} {lv : List (Option Value)} {st : List Value} {h : hpT} {sz : Nat}
theorem zW.at {w : Cond} (i : Nat) (h : lw_tbl[i]? = some w) (h2 : (goodWord w || zNestB w) = true) : zW w := ⟨List.mem_of_getElem? h, h2⟩
theorem V_iconst (pc : Nat) {n : Int} (hd : decode cc pc = .ok (.iconst n, 1))  (k : V l G own cc nL rt ini d kc ks Post (pc + 1) lv (.int (Int32.ofInt n) :: st) h sz) : V l G own cc nL rt ini d kc ks Post pc lv st h sz := by
  intro p e R s m args below meth c A B H locs cells slots ls hH hl h1 h2
  exact lv_iconst B.1 B.2.1 hd rfl (k p e R s m args below meth c A B H locs cells slots ls hH hl h1 h2)
theorem V_bipush (pc : Nat) {n : Int} (hd : decode cc pc = .ok (.bipush n, 2))  (k : V l G own cc nL rt ini d kc ks Post (pc + 2) lv (.int (Int8.ofInt n).toInt32 :: st) h sz) : V l G own cc nL rt ini d kc ks Post pc lv st h sz := by
  intro p e R s m args below meth c A B H locs cells slots ls hH hl h1 h2
  exact lv_bipush B.1 B.2.1 hd rfl (k p e R s m args below meth c A B H locs cells slots ls hH hl h1 h2)
theorem V_sipush (pc : Nat) {n : Int} (hd : decode cc pc = .ok (.sipush n, 3))  (k : V l G own cc nL rt ini d kc ks Post (pc + 3) lv (.int (Int16.ofInt n).toInt32 :: st) h sz) : V l G own cc nL rt ini d kc ks Post pc lv st h sz := by
  intro p e R s m args below meth c A B H locs cells slots ls hH hl h1 h2
  exact lv_sipush B.1 B.2.1 hd rfl (k p e R s m args below meth c A B H locs cells slots ls hH hl h1 h2)
theorem V_iconstv (pc : Nat) {n : Int} (v : Int32) (hd : decode cc pc = .ok (.iconst n, 1)) (hv : Int32.ofInt n = v) (k : V l G own cc nL rt ini d kc ks Post (pc + 1) lv (.int v :: st) h sz) : V l G own cc nL rt ini d kc ks Post pc lv st h sz := by
  intro p e R s m args below meth c A B H locs cells slots ls hH hl h1 h2
  exact lv_iconst B.1 B.2.1 hd hv (k p e R s m args below meth c A B H locs cells slots ls hH hl h1 h2)
theorem V_bipushv (pc : Nat) {n : Int} (v : Int32) (hd : decode cc pc = .ok (.bipush n, 2)) (hv : (Int8.ofInt n).toInt32 = v) (k : V l G own cc nL rt ini d kc ks Post (pc + 2) lv (.int v :: st) h sz) : V l G own cc nL rt ini d kc ks Post pc lv st h sz := by
  intro p e R s m args below meth c A B H locs cells slots ls hH hl h1 h2
  exact lv_bipush B.1 B.2.1 hd hv (k p e R s m args below meth c A B H locs cells slots ls hH hl h1 h2)
theorem V_sipushv (pc : Nat) {n : Int} (v : Int32) (hd : decode cc pc = .ok (.sipush n, 3)) (hv : (Int16.ofInt n).toInt32 = v) (k : V l G own cc nL rt ini d kc ks Post (pc + 3) lv (.int v :: st) h sz) : V l G own cc nL rt ini d kc ks Post pc lv st h sz := by
  intro p e R s m args below meth c A B H locs cells slots ls hH hl h1 h2
  exact lv_sipush B.1 B.2.1 hd hv (k p e R s m args below meth c A B H locs cells slots ls hH hl h1 h2)
theorem V_lconstv (pc : Nat) {n : Fin 2} (v : Int64) (hd : decode cc pc = .ok (.lconst n, 1)) (hv : Int64.ofNat (n : Nat) = v) (k : V l G own cc nL rt ini d kc ks Post (pc + 1) lv (.long v :: st) h sz) : V l G own cc nL rt ini d kc ks Post pc lv st h sz := by
  intro p e R s m args below meth c A B H locs cells slots ls hH hl h1 h2
  exact lv_lconst B.1 B.2.1 hd hv (k p e R s m args below meth c A B H locs cells slots ls hH hl h1 h2)
theorem V_null (pc : Nat)  (hd : decode cc pc = .ok (.aconst_null, 1))  (k : V l G own cc nL rt ini d kc ks Post (pc + 1) lv (.null :: st) h sz) : V l G own cc nL rt ini d kc ks Post pc lv st h sz := by
  intro p e R s m args below meth c A B H locs cells slots ls hH hl h1 h2
  exact lv_null B.1 B.2.1 hd  (k p e R s m args below meth c A B H locs cells slots ls hH hl h1 h2)
theorem V_ldc (pc : Nat) {idx : Nat} {v : Int32} (hd : decode cc pc = .ok (.ldc idx, 2)) (hw : zW (.constant own idx v)) (k : V l G own cc nL rt ini d kc ks Post (pc + 2) lv (.int v :: st) h sz) : V l G own cc nL rt ini d kc ks Post pc lv st h sz := by
  intro p e R s m args below meth c A B H locs cells slots ls hH hl h1 h2
  exact lv_ldc B.1 B.2.1 B.2.2.2.1 (B.2.2.2.2.1 _ hw) hd (k p e R s m args below meth c A B H locs cells slots ls hH hl h1 h2)
theorem V_ldc2 (pc : Nat) {idx : Nat} {v : Int64} (hd : decode cc pc = .ok (.ldc2_w idx, 3)) (hw : zW (.constantLong own idx v)) (k : V l G own cc nL rt ini d kc ks Post (pc + 3) lv (.long v :: st) h sz) : V l G own cc nL rt ini d kc ks Post pc lv st h sz := by
  intro p e R s m args below meth c A B H locs cells slots ls hH hl h1 h2
  exact lv_ldc2 B.1 B.2.1 B.2.2.2.1 (B.2.2.2.2.1 _ hw) hd (k p e R s m args below meth c A B H locs cells slots ls hH hl h1 h2)
theorem V_iload_n (pc : Nat) {i : Fin 4} {x : Int32} (hd : decode cc pc = .ok (.iload_n i, 1)) (hg : zget lv (i : Nat) = some (.int x)) (k : V l G own cc nL rt ini d kc ks Post (pc + 1) lv (.int x :: st) h sz) : V l G own cc nL rt ini d kc ks Post pc lv st h sz := by
  intro p e R s m args below meth c A B H locs cells slots ls hH hl h1 h2
  exact lv_iload_n B.1 B.2.1 hd rfl (hl.2.2 _ _ hg) (k p e R s m args below meth c A B H locs cells slots ls hH hl h1 h2)
theorem V_iload (pc : Nat) {i : Nat} {x : Int32} (hd : decode cc pc = .ok (.iload i, 2)) (hg : zget lv i = some (.int x)) (k : V l G own cc nL rt ini d kc ks Post (pc + 2) lv (.int x :: st) h sz) : V l G own cc nL rt ini d kc ks Post pc lv st h sz := by
  intro p e R s m args below meth c A B H locs cells slots ls hH hl h1 h2
  exact lv_iload B.1 B.2.1 hd (hl.2.2 _ _ hg) (k p e R s m args below meth c A B H locs cells slots ls hH hl h1 h2)
theorem V_lload_n (pc : Nat) {i : Fin 4} {x : Int64} (hd : decode cc pc = .ok (.lload_n i, 1)) (hg : zget lv (i : Nat) = some (.long x)) (k : V l G own cc nL rt ini d kc ks Post (pc + 1) lv (.long x :: st) h sz) : V l G own cc nL rt ini d kc ks Post pc lv st h sz := by
  intro p e R s m args below meth c A B H locs cells slots ls hH hl h1 h2
  exact lv_lload_n B.1 B.2.1 hd rfl (hl.2.2 _ _ hg) (k p e R s m args below meth c A B H locs cells slots ls hH hl h1 h2)
theorem V_lload (pc : Nat) {i : Nat} {x : Int64} (hd : decode cc pc = .ok (.lload i, 2)) (hg : zget lv i = some (.long x)) (k : V l G own cc nL rt ini d kc ks Post (pc + 2) lv (.long x :: st) h sz) : V l G own cc nL rt ini d kc ks Post pc lv st h sz := by
  intro p e R s m args below meth c A B H locs cells slots ls hH hl h1 h2
  exact lv_lload B.1 B.2.1 hd (hl.2.2 _ _ hg) (k p e R s m args below meth c A B H locs cells slots ls hH hl h1 h2)
theorem V_aload_n (pc : Nat) {i : Fin 4} {x : Nat} (hd : decode cc pc = .ok (.aload_n i, 1)) (hg : zget lv (i : Nat) = some (.ref x)) (k : V l G own cc nL rt ini d kc ks Post (pc + 1) lv (.ref x :: st) h sz) : V l G own cc nL rt ini d kc ks Post pc lv st h sz := by
  intro p e R s m args below meth c A B H locs cells slots ls hH hl h1 h2
  exact lv_aload_n B.1 B.2.1 hd rfl (hl.2.2 _ _ hg) (k p e R s m args below meth c A B H locs cells slots ls hH hl h1 h2)
theorem V_aload (pc : Nat) {i : Nat} {x : Nat} (hd : decode cc pc = .ok (.aload i, 2)) (hg : zget lv i = some (.ref x)) (k : V l G own cc nL rt ini d kc ks Post (pc + 2) lv (.ref x :: st) h sz) : V l G own cc nL rt ini d kc ks Post pc lv st h sz := by
  intro p e R s m args below meth c A B H locs cells slots ls hH hl h1 h2
  exact lv_aload B.1 B.2.1 hd (hl.2.2 _ _ hg) (k p e R s m args below meth c A B H locs cells slots ls hH hl h1 h2)
theorem V_aload_nN (pc : Nat) {i : Fin 4} (hd : decode cc pc = .ok (.aload_n i, 1)) (hg : zget lv (i : Nat) = some .null) (k : V l G own cc nL rt ini d kc ks Post (pc + 1) lv (.null :: st) h sz) : V l G own cc nL rt ini d kc ks Post pc lv st h sz := by
  intro p e R s m args below meth c A B H locs cells slots ls hH hl h1 h2
  exact lv_aload_nN B.1 B.2.1 hd rfl (hl.2.2 _ _ hg) (k p e R s m args below meth c A B H locs cells slots ls hH hl h1 h2)
theorem V_aloadN (pc : Nat) {i : Nat} (hd : decode cc pc = .ok (.aload i, 2)) (hg : zget lv i = some .null) (k : V l G own cc nL rt ini d kc ks Post (pc + 2) lv (.null :: st) h sz) : V l G own cc nL rt ini d kc ks Post pc lv st h sz := by
  intro p e R s m args below meth c A B H locs cells slots ls hH hl h1 h2
  exact lv_aloadN B.1 B.2.1 hd (hl.2.2 _ _ hg) (k p e R s m args below meth c A B H locs cells slots ls hH hl h1 h2)
theorem V_istore_n (pc : Nat) {i : Fin 4} {x : Int32} (hd : decode cc pc = .ok (.istore_n i, 1)) (hn : Nat.blt (i : Nat) nL = true) (hok : zok lv (i : Nat) = true) (k : V l G own cc nL rt ini d kc ks Post (pc + 1) (zset lv (i : Nat) (some (.int x))) st h sz) : V l G own cc nL rt ini d kc ks Post pc lv (.int x :: st) h sz := by
  intro p e R s m args below meth c A B H locs cells slots ls hH hl h1 h2
  exact lv_istore_n B.1 B.2.1 hd rfl hl.has (Nat.lt_of_lt_of_le (Nat.lt_succ_self _) (Nat.le_of_ble_eq_true hn)) rfl (fun ls hl => k p e R s m args below meth c A B H locs cells slots ls hH (zLv.st1 hok hl) h1 h2)
theorem V_istore (pc : Nat) {i : Nat} {x : Int32} (hd : decode cc pc = .ok (.istore i, 2)) (hn : Nat.blt i nL = true) (hok : zok lv i = true) (k : V l G own cc nL rt ini d kc ks Post (pc + 2) (zset lv i (some (.int x))) st h sz) : V l G own cc nL rt ini d kc ks Post pc lv (.int x :: st) h sz := by
  intro p e R s m args below meth c A B H locs cells slots ls hH hl h1 h2
  exact lv_istore B.1 B.2.1 hd hl.has (Nat.lt_of_lt_of_le (Nat.lt_succ_self _) (Nat.le_of_ble_eq_true hn)) rfl (fun ls hl => k p e R s m args below meth c A B H locs cells slots ls hH (zLv.st1 hok hl) h1 h2)
theorem V_astore_n (pc : Nat) {i : Fin 4} {x : Nat} (hd : decode cc pc = .ok (.astore_n i, 1)) (hn : Nat.blt (i : Nat) nL = true) (hok : zok lv (i : Nat) = true) (k : V l G own cc nL rt ini d kc ks Post (pc + 1) (zset lv (i : Nat) (some (.ref x))) st h sz) : V l G own cc nL rt ini d kc ks Post pc lv (.ref x :: st) h sz := by
  intro p e R s m args below meth c A B H locs cells slots ls hH hl h1 h2
  exact lv_astore_n B.1 B.2.1 hd rfl hl.has (Nat.lt_of_lt_of_le (Nat.lt_succ_self _) (Nat.le_of_ble_eq_true hn)) rfl (fun ls hl => k p e R s m args below meth c A B H locs cells slots ls hH (zLv.st1 hok hl) h1 h2)
theorem V_astore (pc : Nat) {i : Nat} {x : Nat} (hd : decode cc pc = .ok (.astore i, 2)) (hn : Nat.blt i nL = true) (hok : zok lv i = true) (k : V l G own cc nL rt ini d kc ks Post (pc + 2) (zset lv i (some (.ref x))) st h sz) : V l G own cc nL rt ini d kc ks Post pc lv (.ref x :: st) h sz := by
  intro p e R s m args below meth c A B H locs cells slots ls hH hl h1 h2
  exact lv_astore B.1 B.2.1 hd hl.has (Nat.lt_of_lt_of_le (Nat.lt_succ_self _) (Nat.le_of_ble_eq_true hn)) rfl (fun ls hl => k p e R s m args below meth c A B H locs cells slots ls hH (zLv.st1 hok hl) h1 h2)
theorem V_astore_nN (pc : Nat) {i : Fin 4} (hd : decode cc pc = .ok (.astore_n i, 1)) (hn : Nat.blt (i : Nat) nL = true) (hok : zok lv (i : Nat) = true) (k : V l G own cc nL rt ini d kc ks Post (pc + 1) (zset lv (i : Nat) (some .null)) st h sz) : V l G own cc nL rt ini d kc ks Post pc lv (.null :: st) h sz := by
  intro p e R s m args below meth c A B H locs cells slots ls hH hl h1 h2
  exact lv_astore_nN B.1 B.2.1 hd rfl hl.has (Nat.lt_of_lt_of_le (Nat.lt_succ_self _) (Nat.le_of_ble_eq_true hn)) rfl (fun ls hl => k p e R s m args below meth c A B H locs cells slots ls hH (zLv.st1 hok hl) h1 h2)
theorem V_astoreN (pc : Nat) {i : Nat} (hd : decode cc pc = .ok (.astore i, 2)) (hn : Nat.blt i nL = true) (hok : zok lv i = true) (k : V l G own cc nL rt ini d kc ks Post (pc + 2) (zset lv i (some .null)) st h sz) : V l G own cc nL rt ini d kc ks Post pc lv (.null :: st) h sz := by
  intro p e R s m args below meth c A B H locs cells slots ls hH hl h1 h2
  exact lv_astoreN B.1 B.2.1 hd hl.has (Nat.lt_of_lt_of_le (Nat.lt_succ_self _) (Nat.le_of_ble_eq_true hn)) rfl (fun ls hl => k p e R s m args below meth c A B H locs cells slots ls hH (zLv.st1 hok hl) h1 h2)
theorem V_lstore_n (pc : Nat) {i : Fin 4} {x : Int64} (hd : decode cc pc = .ok (.lstore_n i, 1)) (hn : Nat.blt ((i : Nat) + 1) nL = true) (hok : zok lv (i : Nat) = true) (k : V l G own cc nL rt ini d kc ks Post (pc + 1) (zset (zset lv ((i : Nat) + 1) none) (i : Nat) (some (.long x))) st h sz) : V l G own cc nL rt ini d kc ks Post pc lv (.long x :: st) h sz := by
  intro p e R s m args below meth c A B H locs cells slots ls hH hl h1 h2
  exact lv_lstore_n B.1 B.2.1 hd rfl hl.has (Nat.lt_of_lt_of_le (Nat.lt_succ_self _) (Nat.le_of_ble_eq_true hn)) rfl (fun ls hl => k p e R s m args below meth c A B H locs cells slots ls hH (zLv.st2 hok hl) h1 h2)
theorem V_lstore (pc : Nat) {i : Nat} {x : Int64} (hd : decode cc pc = .ok (.lstore i, 2)) (hn : Nat.blt (i + 1) nL = true) (hok : zok lv i = true) (k : V l G own cc nL rt ini d kc ks Post (pc + 2) (zset (zset lv (i + 1) none) i (some (.long x))) st h sz) : V l G own cc nL rt ini d kc ks Post pc lv (.long x :: st) h sz := by
  intro p e R s m args below meth c A B H locs cells slots ls hH hl h1 h2
  exact lv_lstore B.1 B.2.1 hd hl.has (Nat.lt_of_lt_of_le (Nat.lt_succ_self _) (Nat.le_of_ble_eq_true hn)) rfl (fun ls hl => k p e R s m args below meth c A B H locs cells slots ls hH (zLv.st2 hok hl) h1 h2)
theorem V_iinc (pc : Nat) {i : Nat} {n : Int} {x : Int32} (v : Int32) (hd : decode cc pc = .ok (.iinc i n, 3)) (hg : zget lv i = some (.int x)) (hv : x + Int32.ofInt n = v) (hn : Nat.blt i nL = true) (hok : zok lv i = true) (k : V l G own cc nL rt ini d kc ks Post (pc + 3) (zset lv i (some (.int v))) st h sz) : V l G own cc nL rt ini d kc ks Post pc lv st h sz := by
  intro p e R s m args below meth c A B H locs cells slots ls hH hl h1 h2
  obtain ⟨j, hj⟩ := List.getElem?_of_mem ((zprs_mem lv 0 (i, .int x)).mpr ⟨i, by simp, hg⟩)
  exact lv_iinc B.1 B.2.1 hd hl.has hj hv (Nat.lt_of_lt_of_le (Nat.lt_succ_self _) (Nat.le_of_ble_eq_true hn)) rfl (fun ls hl => k p e R s m args below meth c A B H locs cells slots ls hH (zLv.st1 hok hl) h1 h2)
theorem V_iadd (pc : Nat) {x y : Int32} (hd : decode cc pc = .ok (.iadd, 1))  (k : V l G own cc nL rt ini d kc ks Post (pc + 1) lv (.int (x + y) :: st) h sz) : V l G own cc nL rt ini d kc ks Post pc lv (.int y :: .int x :: st) h sz := by
  intro p e R s m args below meth c A B H locs cells slots ls hH hl h1 h2
  exact lv_iadd B.1 B.2.1 hd  (k p e R s m args below meth c A B H locs cells slots ls hH hl h1 h2)
theorem V_isub (pc : Nat) {x y : Int32} (hd : decode cc pc = .ok (.isub, 1))  (k : V l G own cc nL rt ini d kc ks Post (pc + 1) lv (.int (x - y) :: st) h sz) : V l G own cc nL rt ini d kc ks Post pc lv (.int y :: .int x :: st) h sz := by
  intro p e R s m args below meth c A B H locs cells slots ls hH hl h1 h2
  exact lv_isub B.1 B.2.1 hd  (k p e R s m args below meth c A B H locs cells slots ls hH hl h1 h2)
theorem V_imul (pc : Nat) {x y : Int32} (hd : decode cc pc = .ok (.imul, 1))  (k : V l G own cc nL rt ini d kc ks Post (pc + 1) lv (.int (x * y) :: st) h sz) : V l G own cc nL rt ini d kc ks Post pc lv (.int y :: .int x :: st) h sz := by
  intro p e R s m args below meth c A B H locs cells slots ls hH hl h1 h2
  exact lv_imul B.1 B.2.1 hd  (k p e R s m args below meth c A B H locs cells slots ls hH hl h1 h2)
theorem V_iand (pc : Nat) {x y : Int32} (hd : decode cc pc = .ok (.iand, 1))  (k : V l G own cc nL rt ini d kc ks Post (pc + 1) lv (.int (x &&& y) :: st) h sz) : V l G own cc nL rt ini d kc ks Post pc lv (.int y :: .int x :: st) h sz := by
  intro p e R s m args below meth c A B H locs cells slots ls hH hl h1 h2
  exact lv_iand B.1 B.2.1 hd  (k p e R s m args below meth c A B H locs cells slots ls hH hl h1 h2)
theorem V_ishl (pc : Nat) {x y : Int32} (hd : decode cc pc = .ok (.ishl, 1))  (k : V l G own cc nL rt ini d kc ks Post (pc + 1) lv (.int (x <<< (y &&& 31)) :: st) h sz) : V l G own cc nL rt ini d kc ks Post pc lv (.int y :: .int x :: st) h sz := by
  intro p e R s m args below meth c A B H locs cells slots ls hH hl h1 h2
  exact lv_ishl B.1 B.2.1 hd  (k p e R s m args below meth c A B H locs cells slots ls hH hl h1 h2)
theorem V_idiv (pc : Nat) {x y : Int32} (hd : decode cc pc = .ok (.idiv, 1)) (hne : ¬ y = 0) (k : V l G own cc nL rt ini d kc ks Post (pc + 1) lv (.int (x / y) :: st) h sz) : V l G own cc nL rt ini d kc ks Post pc lv (.int y :: .int x :: st) h sz := by
  intro p e R s m args below meth c A B H locs cells slots ls hH hl h1 h2
  exact lv_idiv B.1 B.2.1 hd hne (k p e R s m args below meth c A B H locs cells slots ls hH hl h1 h2)
theorem V_irem (pc : Nat) {x y : Int32} (hd : decode cc pc = .ok (.irem, 1)) (hne : ¬ y = 0) (k : V l G own cc nL rt ini d kc ks Post (pc + 1) lv (.int (x - x / y * y) :: st) h sz) : V l G own cc nL rt ini d kc ks Post pc lv (.int y :: .int x :: st) h sz := by
  intro p e R s m args below meth c A B H locs cells slots ls hH hl h1 h2
  exact lv_irem B.1 B.2.1 hd hne (k p e R s m args below meth c A B H locs cells slots ls hH hl h1 h2)
theorem V_ladd (pc : Nat) {x y : Int64} (hd : decode cc pc = .ok (.ladd, 1))  (k : V l G own cc nL rt ini d kc ks Post (pc + 1) lv (.long (x + y) :: st) h sz) : V l G own cc nL rt ini d kc ks Post pc lv (.long y :: .long x :: st) h sz := by
  intro p e R s m args below meth c A B H locs cells slots ls hH hl h1 h2
  exact lv_ladd B.1 B.2.1 hd  (k p e R s m args below meth c A B H locs cells slots ls hH hl h1 h2)
theorem V_lmul (pc : Nat) {x y : Int64} (hd : decode cc pc = .ok (.lmul, 1))  (k : V l G own cc nL rt ini d kc ks Post (pc + 1) lv (.long (x * y) :: st) h sz) : V l G own cc nL rt ini d kc ks Post pc lv (.long y :: .long x :: st) h sz := by
  intro p e R s m args below meth c A B H locs cells slots ls hH hl h1 h2
  exact lv_lmul B.1 B.2.1 hd  (k p e R s m args below meth c A B H locs cells slots ls hH hl h1 h2)
theorem V_ldiv (pc : Nat) {x y : Int64} (hd : decode cc pc = .ok (.ldiv, 1)) (hne : ¬ y = 0) (k : V l G own cc nL rt ini d kc ks Post (pc + 1) lv (.long (x / y) :: st) h sz) : V l G own cc nL rt ini d kc ks Post pc lv (.long y :: .long x :: st) h sz := by
  intro p e R s m args below meth c A B H locs cells slots ls hH hl h1 h2
  exact lv_ldiv B.1 B.2.1 hd hne (k p e R s m args below meth c A B H locs cells slots ls hH hl h1 h2)
theorem V_lrem (pc : Nat) {x y : Int64} (hd : decode cc pc = .ok (.lrem, 1)) (hne : ¬ y = 0) (k : V l G own cc nL rt ini d kc ks Post (pc + 1) lv (.long (x - x / y * y) :: st) h sz) : V l G own cc nL rt ini d kc ks Post pc lv (.long y :: .long x :: st) h sz := by
  intro p e R s m args below meth c A B H locs cells slots ls hH hl h1 h2
  exact lv_lrem B.1 B.2.1 hd hne (k p e R s m args below meth c A B H locs cells slots ls hH hl h1 h2)
theorem V_i2l (pc : Nat) {x : Int32} (hd : decode cc pc = .ok (.i2l, 1))  (k : V l G own cc nL rt ini d kc ks Post (pc + 1) lv (.long x.toInt64 :: st) h sz) : V l G own cc nL rt ini d kc ks Post pc lv (.int x :: st) h sz := by
  intro p e R s m args below meth c A B H locs cells slots ls hH hl h1 h2
  exact lv_i2l B.1 B.2.1 hd rfl (k p e R s m args below meth c A B H locs cells slots ls hH hl h1 h2)
theorem V_l2i (pc : Nat) {x : Int64} (hd : decode cc pc = .ok (.l2i, 1))  (k : V l G own cc nL rt ini d kc ks Post (pc + 1) lv (.int x.toInt32 :: st) h sz) : V l G own cc nL rt ini d kc ks Post pc lv (.long x :: st) h sz := by
  intro p e R s m args below meth c A B H locs cells slots ls hH hl h1 h2
  exact lv_l2i B.1 B.2.1 hd rfl (k p e R s m args below meth c A B H locs cells slots ls hH hl h1 h2)
theorem V_lcmp (pc : Nat) {x y : Int64} (hd : decode cc pc = .ok (.lcmp, 1))  (k : V l G own cc nL rt ini d kc ks Post (pc + 1) lv (.int (lg_cmp x y) :: st) h sz) : V l G own cc nL rt ini d kc ks Post pc lv (.long y :: .long x :: st) h sz := by
  intro p e R s m args below meth c A B H locs cells slots ls hH hl h1 h2
  exact W.lcmp B.1 B.2.1 hd  (k p e R s m args below meth c A B H locs cells slots ls hH hl h1 h2)
theorem V_dupr (pc : Nat) {x : Nat} (hd : decode cc pc = .ok (.dup, 1))  (k : V l G own cc nL rt ini d kc ks Post (pc + 1) lv (.ref x :: .ref x :: st) h sz) : V l G own cc nL rt ini d kc ks Post pc lv (.ref x :: st) h sz := by
  intro p e R s m args below meth c A B H locs cells slots ls hH hl h1 h2
  exact lv_dup B.1 B.2.1 hd rfl (k p e R s m args below meth c A B H locs cells slots ls hH hl h1 h2)
theorem V_dupi (pc : Nat) {x : Int32} (hd : decode cc pc = .ok (.dup, 1))  (k : V l G own cc nL rt ini d kc ks Post (pc + 1) lv (.int x :: .int x :: st) h sz) : V l G own cc nL rt ini d kc ks Post pc lv (.int x :: st) h sz := by
  intro p e R s m args below meth c A B H locs cells slots ls hH hl h1 h2
  exact lv_dup B.1 B.2.1 hd rfl (k p e R s m args below meth c A B H locs cells slots ls hH hl h1 h2)
theorem V_pop (pc : Nat) {x : Int32} (hd : decode cc pc = .ok (.pop, 1))  (k : V l G own cc nL rt ini d kc ks Post (pc + 1) lv st h sz) : V l G own cc nL rt ini d kc ks Post pc lv (.int x :: st) h sz := by
  intro p e R s m args below meth c A B H locs cells slots ls hH hl h1 h2
  exact lv_pop (va := .int x) B.1 B.2.1 hd rfl (k p e R s m args below meth c A B H locs cells slots ls hH hl h1 h2)
theorem V_dup2 (pc : Nat) {x : Int32} {r : Nat} (hd : decode cc pc = .ok (.dup2, 1))  (k : V l G own cc nL rt ini d kc ks Post (pc + 1) lv (.int x :: .ref r :: .int x :: .ref r :: st) h sz) : V l G own cc nL rt ini d kc ks Post pc lv (.int x :: .ref r :: st) h sz := by
  intro p e R s m args below meth c A B H locs cells slots ls hH hl h1 h2
  exact lv_dup2_11 B.1 B.2.1 hd rfl rfl (k p e R s m args below meth c A B H locs cells slots ls hH hl h1 h2)
theorem V_dup2l (pc : Nat) {x : Int64} (hd : decode cc pc = .ok (.dup2, 1))  (k : V l G own cc nL rt ini d kc ks Post (pc + 1) lv (.long x :: .long x :: st) h sz) : V l G own cc nL rt ini d kc ks Post pc lv (.long x :: st) h sz := by
  intro p e R s m args below meth c A B H locs cells slots ls hH hl h1 h2
  exact lv_dup2_2 B.1 B.2.1 hd rfl (k p e R s m args below meth c A B H locs cells slots ls hH hl h1 h2)
theorem V_topi {pc : Nat} {x : Int32} (y : Int32) (hy : x = y) (k : V l G own cc nL rt ini d kc ks Post pc lv (.int y :: st) h sz) : V l G own cc nL rt ini d kc ks Post pc lv (.int x :: st) h sz := by subst hy; exact k
theorem V_topl {pc : Nat} {x : Int64} (y : Int64) (hy : x = y) (k : V l G own cc nL rt ini d kc ks Post pc lv (.long y :: st) h sz) : V l G own cc nL rt ini d kc ks Post pc lv (.long x :: st) h sz := by subst hy; exact k
theorem V_goto (pc tgt : Nat) {off : Int} (hd : decode cc pc = .ok (.goto off, 3)) (ht : (pc : Int) + off = (tgt : Int)) (k : V l G own cc nL rt ini d kc ks Post tgt lv st h sz) : V l G own cc nL rt ini d kc ks Post pc lv st h sz := by
  intro p e R s m args below meth c A B H locs cells slots ls hH hl h1 h2
  exact lv_goto B.1 B.2.1 hd ht (k p e R s m args below meth c A B H locs cells slots ls hH hl h1 h2)
theorem V_if_eq (pc tgt : Nat) {x : Int32} {off : Int} (hd : decode cc pc = .ok (.ifCond .eq off, 3)) (ht : (pc : Int) + off = (tgt : Int)) (kt : x = 0 → V l G own cc nL rt ini d kc ks Post tgt lv st h sz) (kf : ¬ (x = 0) → V l G own cc nL rt ini d kc ks Post (pc + 3) lv st h sz) : V l G own cc nL rt ini d kc ks Post pc lv (.int x :: st) h sz := by
  intro p e R s m args below meth c A B H locs cells slots ls hH hl h1 h2
  exact lv_if_eq B.1 B.2.1 hd ht (fun q => kt q p e R s m args below meth c A B H locs cells slots ls hH hl h1 h2) (fun q => kf q p e R s m args below meth c A B H locs cells slots ls hH hl h1 h2)
theorem V_icmp_eq (pc tgt : Nat) {x y : Int32} {off : Int} (hd : decode cc pc = .ok (.if_icmp .eq off, 3)) (ht : (pc : Int) + off = (tgt : Int)) (kt : x = y → V l G own cc nL rt ini d kc ks Post tgt lv st h sz) (kf : ¬ (x = y) → V l G own cc nL rt ini d kc ks Post (pc + 3) lv st h sz) : V l G own cc nL rt ini d kc ks Post pc lv (.int y :: .int x :: st) h sz := by
  intro p e R s m args below meth c A B H locs cells slots ls hH hl h1 h2
  exact lv_icmp_eq B.1 B.2.1 hd ht (fun q => kt q p e R s m args below meth c A B H locs cells slots ls hH hl h1 h2) (fun q => kf q p e R s m args below meth c A B H locs cells slots ls hH hl h1 h2)
theorem V_if_ne (pc tgt : Nat) {x : Int32} {off : Int} (hd : decode cc pc = .ok (.ifCond .ne off, 3)) (ht : (pc : Int) + off = (tgt : Int)) (kt : ¬ x = 0 → V l G own cc nL rt ini d kc ks Post tgt lv st h sz) (kf : x = 0 → V l G own cc nL rt ini d kc ks Post (pc + 3) lv st h sz) : V l G own cc nL rt ini d kc ks Post pc lv (.int x :: st) h sz := by
  intro p e R s m args below meth c A B H locs cells slots ls hH hl h1 h2
  exact lv_if_ne B.1 B.2.1 hd ht (fun q => kt q p e R s m args below meth c A B H locs cells slots ls hH hl h1 h2) (fun q => kf q p e R s m args below meth c A B H locs cells slots ls hH hl h1 h2)
theorem V_icmp_ne (pc tgt : Nat) {x y : Int32} {off : Int} (hd : decode cc pc = .ok (.if_icmp .ne off, 3)) (ht : (pc : Int) + off = (tgt : Int)) (kt : ¬ x = y → V l G own cc nL rt ini d kc ks Post tgt lv st h sz) (kf : x = y → V l G own cc nL rt ini d kc ks Post (pc + 3) lv st h sz) : V l G own cc nL rt ini d kc ks Post pc lv (.int y :: .int x :: st) h sz := by
  intro p e R s m args below meth c A B H locs cells slots ls hH hl h1 h2
  exact lv_icmp_ne B.1 B.2.1 hd ht (fun q => kt q p e R s m args below meth c A B H locs cells slots ls hH hl h1 h2) (fun q => kf q p e R s m args below meth c A B H locs cells slots ls hH hl h1 h2)
theorem V_if_lt (pc tgt : Nat) {x : Int32} {off : Int} (hd : decode cc pc = .ok (.ifCond .lt off, 3)) (ht : (pc : Int) + off = (tgt : Int)) (kt : x < 0 → V l G own cc nL rt ini d kc ks Post tgt lv st h sz) (kf : ¬ (x < 0) → V l G own cc nL rt ini d kc ks Post (pc + 3) lv st h sz) : V l G own cc nL rt ini d kc ks Post pc lv (.int x :: st) h sz := by
  intro p e R s m args below meth c A B H locs cells slots ls hH hl h1 h2
  exact lv_if_lt B.1 B.2.1 hd ht (fun q => kt q p e R s m args below meth c A B H locs cells slots ls hH hl h1 h2) (fun q => kf q p e R s m args below meth c A B H locs cells slots ls hH hl h1 h2)
theorem V_icmp_lt (pc tgt : Nat) {x y : Int32} {off : Int} (hd : decode cc pc = .ok (.if_icmp .lt off, 3)) (ht : (pc : Int) + off = (tgt : Int)) (kt : x < y → V l G own cc nL rt ini d kc ks Post tgt lv st h sz) (kf : ¬ (x < y) → V l G own cc nL rt ini d kc ks Post (pc + 3) lv st h sz) : V l G own cc nL rt ini d kc ks Post pc lv (.int y :: .int x :: st) h sz := by
  intro p e R s m args below meth c A B H locs cells slots ls hH hl h1 h2
  exact lv_icmp_lt B.1 B.2.1 hd ht (fun q => kt q p e R s m args below meth c A B H locs cells slots ls hH hl h1 h2) (fun q => kf q p e R s m args below meth c A B H locs cells slots ls hH hl h1 h2)
theorem V_if_ge (pc tgt : Nat) {x : Int32} {off : Int} (hd : decode cc pc = .ok (.ifCond .ge off, 3)) (ht : (pc : Int) + off = (tgt : Int)) (kt : 0 ≤ x → V l G own cc nL rt ini d kc ks Post tgt lv st h sz) (kf : ¬ (0 ≤ x) → V l G own cc nL rt ini d kc ks Post (pc + 3) lv st h sz) : V l G own cc nL rt ini d kc ks Post pc lv (.int x :: st) h sz := by
  intro p e R s m args below meth c A B H locs cells slots ls hH hl h1 h2
  exact lv_if_ge B.1 B.2.1 hd ht (fun q => kt q p e R s m args below meth c A B H locs cells slots ls hH hl h1 h2) (fun q => kf q p e R s m args below meth c A B H locs cells slots ls hH hl h1 h2)
theorem V_icmp_ge (pc tgt : Nat) {x y : Int32} {off : Int} (hd : decode cc pc = .ok (.if_icmp .ge off, 3)) (ht : (pc : Int) + off = (tgt : Int)) (kt : y ≤ x → V l G own cc nL rt ini d kc ks Post tgt lv st h sz) (kf : ¬ (y ≤ x) → V l G own cc nL rt ini d kc ks Post (pc + 3) lv st h sz) : V l G own cc nL rt ini d kc ks Post pc lv (.int y :: .int x :: st) h sz := by
  intro p e R s m args below meth c A B H locs cells slots ls hH hl h1 h2
  exact lv_icmp_ge B.1 B.2.1 hd ht (fun q => kt q p e R s m args below meth c A B H locs cells slots ls hH hl h1 h2) (fun q => kf q p e R s m args below meth c A B H locs cells slots ls hH hl h1 h2)
theorem V_if_gt (pc tgt : Nat) {x : Int32} {off : Int} (hd : decode cc pc = .ok (.ifCond .gt off, 3)) (ht : (pc : Int) + off = (tgt : Int)) (kt : 0 < x → V l G own cc nL rt ini d kc ks Post tgt lv st h sz) (kf : ¬ (0 < x) → V l G own cc nL rt ini d kc ks Post (pc + 3) lv st h sz) : V l G own cc nL rt ini d kc ks Post pc lv (.int x :: st) h sz := by
  intro p e R s m args below meth c A B H locs cells slots ls hH hl h1 h2
  exact lv_if_gt B.1 B.2.1 hd ht (fun q => kt q p e R s m args below meth c A B H locs cells slots ls hH hl h1 h2) (fun q => kf q p e R s m args below meth c A B H locs cells slots ls hH hl h1 h2)
theorem V_icmp_gt (pc tgt : Nat) {x y : Int32} {off : Int} (hd : decode cc pc = .ok (.if_icmp .gt off, 3)) (ht : (pc : Int) + off = (tgt : Int)) (kt : y < x → V l G own cc nL rt ini d kc ks Post tgt lv st h sz) (kf : ¬ (y < x) → V l G own cc nL rt ini d kc ks Post (pc + 3) lv st h sz) : V l G own cc nL rt ini d kc ks Post pc lv (.int y :: .int x :: st) h sz := by
  intro p e R s m args below meth c A B H locs cells slots ls hH hl h1 h2
  exact lv_icmp_gt B.1 B.2.1 hd ht (fun q => kt q p e R s m args below meth c A B H locs cells slots ls hH hl h1 h2) (fun q => kf q p e R s m args below meth c A B H locs cells slots ls hH hl h1 h2)
theorem V_if_le (pc tgt : Nat) {x : Int32} {off : Int} (hd : decode cc pc = .ok (.ifCond .le off, 3)) (ht : (pc : Int) + off = (tgt : Int)) (kt : x ≤ 0 → V l G own cc nL rt ini d kc ks Post tgt lv st h sz) (kf : ¬ (x ≤ 0) → V l G own cc nL rt ini d kc ks Post (pc + 3) lv st h sz) : V l G own cc nL rt ini d kc ks Post pc lv (.int x :: st) h sz := by
  intro p e R s m args below meth c A B H locs cells slots ls hH hl h1 h2
  exact lv_if_le B.1 B.2.1 hd ht (fun q => kt q p e R s m args below meth c A B H locs cells slots ls hH hl h1 h2) (fun q => kf q p e R s m args below meth c A B H locs cells slots ls hH hl h1 h2)
theorem V_icmp_le (pc tgt : Nat) {x y : Int32} {off : Int} (hd : decode cc pc = .ok (.if_icmp .le off, 3)) (ht : (pc : Int) + off = (tgt : Int)) (kt : x ≤ y → V l G own cc nL rt ini d kc ks Post tgt lv st h sz) (kf : ¬ (x ≤ y) → V l G own cc nL rt ini d kc ks Post (pc + 3) lv st h sz) : V l G own cc nL rt ini d kc ks Post pc lv (.int y :: .int x :: st) h sz := by
  intro p e R s m args below meth c A B H locs cells slots ls hH hl h1 h2
  exact lv_icmp_le B.1 B.2.1 hd ht (fun q => kt q p e R s m args below meth c A B H locs cells slots ls hH hl h1 h2) (fun q => kf q p e R s m args below meth c A B H locs cells slots ls hH hl h1 h2)
theorem V_ifnull (pc : Nat) {x : Nat} {off : Int} (hd : decode cc pc = .ok (.ifnull off, 3)) (k : V l G own cc nL rt ini d kc ks Post (pc + 3) lv st h sz) : V l G own cc nL rt ini d kc ks Post pc lv (.ref x :: st) h sz := by
  intro p e R s m args below meth c A B H locs cells slots ls hH hl h1 h2
  exact lv_ifnull B.1 B.2.1 hd (k p e R s m args below meth c A B H locs cells slots ls hH hl h1 h2)
theorem V_ifnullN (pc tgt : Nat) {off : Int} (hd : decode cc pc = .ok (.ifnull off, 3)) (ht : (pc : Int) + off = (tgt : Int)) (k : V l G own cc nL rt ini d kc ks Post tgt lv st h sz) : V l G own cc nL rt ini d kc ks Post pc lv (.null :: st) h sz := by
  intro p e R s m args below meth c A B H locs cells slots ls hH hl h1 h2
  exact lv_ifnullN B.1 B.2.1 hd ht (k p e R s m args below meth c A B H locs cells slots ls hH hl h1 h2)
theorem V_ifnonnull (pc tgt : Nat) {x : Nat} {off : Int} (hd : decode cc pc = .ok (.ifnonnull off, 3)) (ht : (pc : Int) + off = (tgt : Int)) (k : V l G own cc nL rt ini d kc ks Post tgt lv st h sz) : V l G own cc nL rt ini d kc ks Post pc lv (.ref x :: st) h sz := by
  intro p e R s m args below meth c A B H locs cells slots ls hH hl h1 h2
  exact lv_ifnonnull B.1 B.2.1 hd ht (k p e R s m args below meth c A B H locs cells slots ls hH hl h1 h2)
theorem V_ifnonnullN (pc : Nat) {off : Int} (hd : decode cc pc = .ok (.ifnonnull off, 3)) (k : V l G own cc nL rt ini d kc ks Post (pc + 3) lv st h sz) : V l G own cc nL rt ini d kc ks Post pc lv (.null :: st) h sz := by
  intro p e R s m args below meth c A B H locs cells slots ls hH hl h1 h2
  exact lv_ifnonnullN B.1 B.2.1 hd (k p e R s m args below meth c A B H locs cells slots ls hH hl h1 h2)
theorem V_tableIn (pc tgt : Nat) {dflt lo hi : Int} {offs : Array Int} {len : Nat} {x : Int32} (off : Int) (hd : decode cc pc = .ok (.tableswitch dflt lo hi offs, len)) (h1 : ¬ x.toInt < lo) (h2 : ¬ hi < x.toInt) (ho : offs[(x.toInt - lo).toNat]? = some off) (ht : (pc : Int) + off = (tgt : Int)) (k : V l G own cc nL rt ini d kc ks Post tgt lv st h sz) : V l G own cc nL rt ini d kc ks Post pc lv (.int x :: st) h sz := by
  intro p e R s m args below meth c A B H locs cells slots ls hH hl h3 h4
  exact lv_tableIn B.1 B.2.1 hd h1 h2 ho ht (k p e R s m args below meth c A B H locs cells slots ls hH hl h3 h4)
theorem V_tableOut (pc tgt : Nat) {dflt lo hi : Int} {offs : Array Int} {len : Nat} {x : Int32} (hd : decode cc pc = .ok (.tableswitch dflt lo hi offs, len)) (h : x.toInt < lo ∨ hi < x.toInt) (ht : (pc : Int) + dflt = (tgt : Int)) {hh : hpT} (k : V l G own cc nL rt ini d kc ks Post tgt lv st hh sz) : V l G own cc nL rt ini d kc ks Post pc lv (.int x :: st) hh sz := by
  intro p e R s m args below meth c A B H locs cells slots ls hH hl h3 h4
  exact lv_tableOut B.1 B.2.1 hd h ht (k p e R s m args below meth c A B H locs cells slots ls hH hl h3 h4)
theorem V_lookup (pc tgt : Nat) {dflt : Int} {ps : Array (Int × Int)} {len : Nat} {x : Int32} {off : Int} (hd : decode cc pc = .ok (.lookupswitch dflt ps, len)) (hp : (ps.toList.zip (ps.toList.drop 1)).all (fun (a, next) => a.1 < next.1) = true) (ho : Op.lookupswitch.offset ps.toList dflt x.toInt = off) (ht : (pc : Int) + off = (tgt : Int)) (k : V l G own cc nL rt ini d kc ks Post tgt lv st h sz) : V l G own cc nL rt ini d kc ks Post pc lv (.int x :: st) h sz := by
  intro p e R s m args below meth c A B H locs cells slots ls hH hl h1 h2
  exact lv_lookup B.1 B.2.1 hd hp ho ht (k p e R s m args below meth c A B H locs cells slots ls hH hl h1 h2)
theorem V_iret (pc : Nat) {v : Int32} (hd : decode cc pc = .ok (.ireturn, 1))  (hq : Post (some (.int v)) h sz) : V l G own cc nL (some .int) ini d kc ks Post pc lv [.int v] h sz := by
  intro p e R s m args below meth c A B H locs cells slots ls hH hl h1 h2
  refine W.widen (k := R.cells) (n := R.slots) (Nat.le_trans (Nat.le_add_right _ _) h1) (Nat.le_trans (Nat.le_add_right _ _) h2) ?_
  obtain ⟨hx, hb, -, -, -, -, -, hr, hlk, -⟩ := B
  exact W.iret (v := v) hx hb hr  (fun t ht hW => ⟨_, h, sz, rfl, hq, by rw [ht]; exact hH.1, hH.2.1, by rw [ht]; exact hH.2.2.1, hH.2.2.2.F ht⟩) hH.2.2.2.2.2 hd (hlocks := hlk)
theorem V_zret (pc : Nat) {v : Int32} (hd : decode cc pc = .ok (.ireturn, 1)) (hv : v = 0 ∨ v = 1) (hq : Post (some (.int v)) h sz) : V l G own cc nL (some .boolean) ini d kc ks Post pc lv [.int v] h sz := by
  intro p e R s m args below meth c A B H locs cells slots ls hH hl h1 h2
  refine W.widen (k := R.cells) (n := R.slots) (Nat.le_trans (Nat.le_add_right _ _) h1) (Nat.le_trans (Nat.le_add_right _ _) h2) ?_
  obtain ⟨hx, hb, -, -, -, -, -, hr, hlk, -⟩ := B
  exact W.zret (v := v) (ty := .boolean) hx hb hr (by rcases hv with rfl | rfl <;> rfl) (fun t ht hW => ⟨_, h, sz, rfl, hq, by rw [ht]; exact hH.1, hH.2.1, by rw [ht]; exact hH.2.2.1, hH.2.2.2.F ht⟩) hH.2.2.2.2.2 hd (hlocks := hlk)
theorem V_lret (pc : Nat) {v : Int64} (hd : decode cc pc = .ok (.lreturn, 1))  (hq : Post (some (.long v)) h sz) : V l G own cc nL (some .long) ini d kc ks Post pc lv [.long v] h sz := by
  intro p e R s m args below meth c A B H locs cells slots ls hH hl h1 h2
  refine W.widen (k := R.cells) (n := R.slots) (Nat.le_trans (Nat.le_add_right _ _) h1) (Nat.le_trans (Nat.le_add_right _ _) h2) ?_
  obtain ⟨hx, hb, -, -, -, -, -, hr, hlk, -⟩ := B
  exact W.lret (v := v) hx hb hr  (fun t ht hW => ⟨_, h, sz, rfl, hq, by rw [ht]; exact hH.1, hH.2.1, by rw [ht]; exact hH.2.2.1, hH.2.2.2.F ht⟩) hH.2.2.2.2.2 hd (hlocks := hlk)
theorem V_aret (pc : Nat) {v : Nat} {C : String} (hd : decode cc pc = .ok (.areturn, 1))  (hq : Post (some (.ref v)) h sz) : V l G own cc nL (some (.object C)) ini d kc ks Post pc lv [.ref v] h sz := by
  intro p e R s m args below meth c A B H locs cells slots ls hH hl h1 h2
  refine W.widen (k := R.cells) (n := R.slots) (Nat.le_trans (Nat.le_add_right _ _) h1) (Nat.le_trans (Nat.le_add_right _ _) h2) ?_
  obtain ⟨hx, hb, -, -, -, -, -, hr, hlk, -⟩ := B
  exact W.aret (v := .ref v) hx hb hr (Or.inl ⟨_, rfl⟩) (Or.inr ⟨_, rfl⟩) (fun t ht hW => ⟨_, h, sz, rfl, hq, by rw [ht]; exact hH.1, hH.2.1, by rw [ht]; exact hH.2.2.1, hH.2.2.2.F ht⟩) hH.2.2.2.2.2 hd (hlocks := hlk)
theorem V_aretN (pc : Nat) {C : String} (hd : decode cc pc = .ok (.areturn, 1))  (hq : Post (some .null) h sz) : V l G own cc nL (some (.object C)) ini d kc ks Post pc lv [.null] h sz := by
  intro p e R s m args below meth c A B H locs cells slots ls hH hl h1 h2
  refine W.widen (k := R.cells) (n := R.slots) (Nat.le_trans (Nat.le_add_right _ _) h1) (Nat.le_trans (Nat.le_add_right _ _) h2) ?_
  obtain ⟨hx, hb, -, -, -, -, -, hr, hlk, -⟩ := B
  exact W.aret (v := .null) hx hb hr (Or.inl ⟨_, rfl⟩) (Or.inl rfl) (fun t ht hW => ⟨_, h, sz, rfl, hq, by rw [ht]; exact hH.1, hH.2.1, by rw [ht]; exact hH.2.2.1, hH.2.2.2.F ht⟩) hH.2.2.2.2.2 hd (hlocks := hlk)
theorem V_vret (pc : Nat)  (hd : decode cc pc = .ok (.return_, 1))  (hq : Post (none) h sz) : V l G own cc nL (none) ini d kc ks Post pc lv [] h sz := by
  intro p e R s m args below meth c A B H locs cells slots ls hH hl h1 h2
  refine W.widen (k := R.cells) (n := R.slots) (Nat.le_trans (Nat.le_add_right _ _) h1) (Nat.le_trans (Nat.le_add_right _ _) h2) ?_
  obtain ⟨hx, hb, -, -, -, -, -, hr, hlk, -⟩ := B
  exact W.vret hx hb hr  (fun t ht hW => ⟨_, h, sz, rfl, hq, by rw [ht]; exact hH.1, hH.2.1, by rw [ht]; exact hH.2.2.1, hH.2.2.2.F ht⟩) hH.2.2.2.2.2 hd (hlocks := hlk)
end VR
end
section
theorem zP.one {G : zGT} {h : hpT} {H : Heap} {a : Nat} {e : va_E} (hP : zP G h H) (ha : h a = some e) : va_P G.1 vwCl [(a, e)] H := by
  intro k q hk
  match k, hk with
  | 0, hk => cases hk; exact hP a e ha
  | k + 1, hk => simp at hk
theorem zP.lt {G : zGT} {h : hpT} {H : Heap} {a : Nat} {e : va_E} (hP : zP G h H) (ha : h a = some e) : a < H.size := (hP a e ha).lt
/-- a cell of the heap is written -/
theorem zH.upd {G : zGT} {h : hpT} {sz : Nat} {A : Nat → Prop} {s : State} {H H1 : Heap} {locs : List Loc} {a k : Nat} {e0 e : va_E} (hH : zH G h sz A s H locs) (ha : h a = some e0) (he : va_at G.1 vwCl (a, e) H1) (z : H1.size = H.size) (oq : ∀ q : Nat, q ≠ a → H1[q]? = H[q]?) : zH G (hpS h a e) sz A s H1 (locs ++ [⟨a, k⟩]) := by
  obtain ⟨hP, hA, hsz, hS⟩ := hH
  refine ⟨fun b x hb => ?_, fun b x hb => ?_, z.trans hsz, hS.put z oq (hA a _ ha)⟩
  · by_cases hba : b = a
    · subst hba
      rw [hpS_self] at hb
      cases hb
      exact he
    · rw [hpS_ne _ _ hba] at hb
      exact (hP b x hb).kept (oq b hba)
  · by_cases hba : b = a
    · subst hba
      exact hA b _ ha
    · rw [hpS_ne _ _ hba] at hb
      exact hA b x hb
/-- a cell is made -/
theorem zH.new {G : zGT} {h : hpT} {sz : Nat} {A : Nat → Prop} {s : State} {H H1 : Heap} {locs : List Loc} {e : va_E} (hH : zH G h sz A s H locs) (hA : ∀ q, s.heap.size ≤ q → A q) (he : va_at G.1 vwCl (sz, e) H1) (z : H1.size = sz + 1) (oq : ∀ q : Nat, q < sz → H1[q]? = H[q]?) : zH G (hpS h sz e) (sz + 1) A s H1 locs := by
  obtain ⟨hP, hA1, hsz, hS⟩ := hH
  refine ⟨fun b x hb => ?_, fun b x hb => ?_, z, by rw [z, ← hsz]; exact Nat.le_trans hS.1 (Nat.le_succ _), fun q h1 h2 => ?_, hS.2.2⟩
  · by_cases hba : b = sz
    · subst hba
      rw [hpS_self] at hb
      cases hb
      exact he
    · rw [hpS_ne _ _ hba] at hb
      exact (hP b x hb).kept (oq b (by rw [← hsz]; exact hP.lt hb))
  · by_cases hba : b = sz
    · subst hba
      exact hA _ (by rw [← hsz]; exact hS.1)
    · rw [hpS_ne _ _ hba] at hb
      exact hA1 b x hb
  · rw [oq q (by rw [← hsz]; exact Nat.lt_of_lt_of_le h1 hS.1)]
    exact hS.2.1 q h1 h2
/-- what is known of a class by its number -/
def zCls (ci : Nat) (C : String) (T : u_T) (N : Nat) : Prop := vwCl[ci]? = some (C, T, N) ∧ (∀ w ∈ u_ws C T N, zW w) ∧ (∃ ty : Nat → FieldType, ∀ k, k < N → parseFieldDescriptor (T k).2.2.1 = some (ty k)) ∧ (∀ a, a < N → ∀ b, b < N → a ≠ b → (T a).2.1 ≠ (T b).2.1)
/-- field k of class ci, by its index in the pool of own -/
def zFd (own : String) (idx ci k : Nat) : Prop := ∃ (C : String) (T : u_T) (N : Nat), zCls ci C T N ∧ k < N ∧ (T k).1 = C ∧ (zW (.fieldLink own idx C (T k).2.1 (T k).2.2.1) ∨ ∃ host, zW (.fieldLinkNest own idx C (T k).2.1 (T k).2.2.1 host))
/-- the same, written: its type, final or not -/
def zFp (own : String) (idx ci k : Nat) (ty : FieldType) (fin : Bool) : Prop := ∃ (C : String) (T : u_T) (N : Nat), zCls ci C T N ∧ k < N ∧ (T k).1 = C ∧ ((fin = true ∧ own = C ∧ zW (.fieldLink own idx C (T k).2.1 (T k).2.2.1)) ∨ (fin = false ∧ (zW (.fieldLink own idx C (T k).2.1 (T k).2.2.1) ∨ ∃ host, zW (.fieldLinkNest own idx C (T k).2.1 (T k).2.2.1 host)))) ∧ (T k).2.2.2 = fin ∧ parseFieldDescriptor (T k).2.2.1 = some ty
section VH
variable {l : Launch} {G : zGT} {own : String} {cc : ByteArray} {nL : Nat} {rt : Option FieldType} {ini : Bool} {d kc ks : Nat} {Post : Option Value → hpT → Nat → Prop} {lv : List (Option Value)} {st : List Value} {h : hpT} {sz : Nat}
theorem V_get (pc : Nat) {idx ci k a : Nat} {fs : List Value} {v : Value} (hd : decode cc pc = .ok (.getfield idx, 3)) (hf : zFd own idx ci k) (ha : h a = some (ob ci fs)) (hv : fs[k]? = some v) (kk : V l G own cc nL rt ini d kc ks Post (pc + 3) lv (v :: st) h sz) : V l G own cc nL rt ini d kc ks Post pc lv (.ref a :: st) h sz := by
  intro p e R s m args below meth c A B H locs cells slots ls hH hl h1 h2
  obtain ⟨C, T, N, ⟨hc, hws, -, -⟩, hk, hC, hlink⟩ := hf
  have K := kk p e R s m args below meth c A B H locs cells slots ls hH hl h1 h2
  obtain ⟨hx, hb, -, hown, hts, hK, -⟩ := B
  have hts1 : ∀ w ∈ u_ws C T N, w.before args s = true := fun w hw => hts w (hws w hw)
  rcases hlink with hlink | ⟨host, hlink⟩
  · exact va_get (ci := ci) (ref := C) hx hb hts1 (fun _ q => q) hown hK (hH.1.one ha) 0 rfl hc k hk (hts _ hlink) (fun _ q => by rw [hC] at q; exact q) hv hd K
  · exact va_getN (ci := ci) (ref := C) hx hb hts1 (fun _ q => q) hown hK (hH.1.one ha) 0 rfl hc k hk (hts _ hlink) (fun _ q => by rw [hC] at q; exact q) hv hd K
set_option maxHeartbeats 1000000 in
theorem V_put (pc : Nat) {idx ci k a : Nat} {fs : List Value} {v : Value} {ty : FieldType} {fin : Bool} (hd : decode cc pc = .ok (.putfield idx, 3)) (hf : zFp own idx ci k ty fin) (hini : fin = true → ini = true) (ha : h a = some (ob ci fs)) (hn : narrow ty v = v) (hfit : fits ty v = true) (hl0 : k < fs.length) (kk : V l G own cc nL rt ini d kc ks Post (pc + 3) lv st (hpS h a (ob ci (fs.set k v))) sz) : V l G own cc nL rt ini d kc ks Post pc lv (v :: .ref a :: st) h sz := by
  intro p e R s m args below meth c A B H locs cells slots ls hH hl h1 h2
  obtain ⟨C, T, N, ⟨hc, hws, ⟨ty0, hty⟩, hnm⟩, hk, hC, hlink, hfin, hpd⟩ := hf
  have K : ∀ (H1 : Heap) (locs1 : List Loc), zH G (hpS h a (ob ci (fs.set k v))) sz A s H1 locs1 → W p l e R s m args below meth c H1 locs1 cells slots (MQ below (zQ G Post A) args s R.cells R.slots A) (F0 m (pc + 3) ls st) := fun H1 locs1 hH1 => kk p e R s m args below meth c A B H1 locs1 cells slots ls hH1 hl h1 h2
  obtain ⟨hx, hb, -, hown, hts, hK, -, -, -, hin2, -⟩ := B
  have hts1 : ∀ w ∈ u_ws C T N, w.before args s = true := fun w hw => hts w (hws w hw)
  have hap := va_apart (own := own) (Ts := u_ws C T N) hts1 (fun _ q => q) ty0 hty hnm hK hc
  obtain ⟨r, hr1, cell, q1, q2, q3, q4⟩ := hH.1 a _ ha
  have hr : r = (C, T, N) := Option.some.inj (hr1.symm.trans hc)
  subst hr
  obtain ⟨hS, hfc, kC, hkC, hkind⟩ := hK.1 ci _ hc
  obtain ⟨cf, kf, fi, f, hi, hsl⟩ := hS k hk
  have hlay := hts1 _ (u_in_lay hk)
  have hst := (u_facts hfc hkC (u_lays (ws := u_ws C T N) hts1 (fun _ q => q) hk) hi).1
  have hi2 : s.fieldFound? C (T k).2.1 (T k).2.2.1 = some (cf, kf, fi, f) := by rw [← hC]; exact hi
  have done : ∀ H' : Heap, H'[a]? = some (cell.setSlot f.slot v) → H'.size = H.size → (∀ q, q ≠ a → H'[q]? = H[q]?) → W p l e R s m args below meth c H' (locs ++ [⟨a, f.slot⟩]) cells slots (MQ below (zQ G Post A) args s R.cells R.slots A) (F0 m (pc + 3) ls st) := by
    intro H' e1 e2 e3
    refine K H' _ (hH.upd ha ?_ e2 e3)
    rw [hsl] at e1
    exact ⟨_, hc, t_OB.to (V := updV (vp_V fs) k v) ⟨_, e1, q2, q3, t_set q4 hap hk v⟩ (fun j _ => vp_updV_set hl0 v j)⟩
  unfold u_lay at hlay
  rcases hlink with ⟨rfl, hoC, hlink⟩ | ⟨rfl, hlink⟩
  · rw [if_pos hfin] at hlay
    have hcf : m.cls = cf := by
      obtain ⟨_, _, c', _, _, _, -, -, hf', -, -, -, hown2, -⟩ := Cond.laysFinal_spec hlay
      have e1 : c' = cf := by have := hi.symm.trans hf'; simp at this; exact this.1.symm
      rw [hC, ← hoC] at hown2
      rw [← e1]; exact Option.some.inj (hown.symm.trans hown2)
    have h6 := u_fits hfc hkC hkind (Or.inr hlay) hi hpd hn hfit
    exact W.putFinK hx hb hown (hts _ hlink) hi2 hst hcf (hin2 (hini rfl)) (by rw [q2]; exact h6) q1 q3 (by rw [hsl]; exact k2_hasslot (q4 k hk)) rfl rfl hd done
  · rw [if_neg (by rw [hfin]; decide)] at hlay
    have h6 := u_store hfc hkC hkind hlay hi hpd hn hfit
    rcases hlink with hlink | ⟨host, hlink⟩
    · exact W.putK hx hb (f := f) ⟨hown, hts _ hlink, ⟨_, _, _, hi2⟩, hst⟩ (by rw [q2]; exact h6) q1 q3 (by rw [hsl]; exact k2_hasslot (q4 k hk)) rfl rfl hd done
    · exact va_WputK hx hb (f := f) hown (hts _ hlink) hi2 hst (by rw [q2]; exact h6) q1 q3 (by rw [hsl]; exact k2_hasslot (q4 k hk)) rfl rfl hd done
theorem V_iald (pc : Nat) {a n : Nat} {f : Nat → Int32} {i : Int32} (hd : decode cc pc = .ok (.iaload, 1)) (ha : h a = some (aI G n f)) (hin : vp_in i n) (kk : V l G own cc nL rt ini d kc ks Post (pc + 1) lv (.int (f i.toNatClampNeg) :: st) h sz) : V l G own cc nL rt ini d kc ks Post pc lv (.int i :: .ref a :: st) h sz := by
  intro p e R s m args below meth c A B H locs cells slots ls hH hl h1 h2
  exact va_iald B.1 B.2.1 B.2.2.2.2.2.1 (hH.1.one ha) 0 0 rfl rfl hin hd (kk p e R s m args below meth c A B H locs cells slots ls hH hl h1 h2)
theorem V_lald (pc : Nat) {a n : Nat} {f : Nat → Int64} {i : Int32} (hd : decode cc pc = .ok (.laload, 1)) (ha : h a = some (aJ G n f)) (hin : vp_in i n) (kk : V l G own cc nL rt ini d kc ks Post (pc + 1) lv (.long (f i.toNatClampNeg) :: st) h sz) : V l G own cc nL rt ini d kc ks Post pc lv (.int i :: .ref a :: st) h sz := by
  intro p e R s m args below meth c A B H locs cells slots ls hH hl h1 h2
  exact va_lald B.1 B.2.1 B.2.2.2.2.2.1 (hH.1.one ha) 0 1 rfl rfl hin hd (kk p e R s m args below meth c A B H locs cells slots ls hH hl h1 h2)
theorem V_aald (pc : Nat) {a n : Nat} {f : Nat → Option Nat} {i : Int32} (hd : decode cc pc = .ok (.aaload, 1)) (ha : h a = some (aR G n f)) (hin : vp_in i n) (kk : V l G own cc nL rt ini d kc ks Post (pc + 1) lv (va_rf (f i.toNatClampNeg) :: st) h sz) : V l G own cc nL rt ini d kc ks Post pc lv (.int i :: .ref a :: st) h sz := by
  intro p e R s m args below meth c A B H locs cells slots ls hH hl h1 h2
  exact va_aldq (C := RX0) B.1 B.2.1 B.2.2.2.2.2.1 (hH.1.one ha) 0 2 rfl rfl hin hd (kk p e R s m args below meth c A B H locs cells slots ls hH hl h1 h2)
theorem V_alenI (pc : Nat) {a n : Nat} {f : Nat → Int32} (v : Int32) (hd : decode cc pc = .ok (.arraylength, 1)) (ha : h a = some (aI G n f)) (hv : Int32.ofNat n = v) (kk : V l G own cc nL rt ini d kc ks Post (pc + 1) lv (.int v :: st) h sz) : V l G own cc nL rt ini d kc ks Post pc lv (.ref a :: st) h sz := by
  intro p e R s m args below meth c A B H locs cells slots ls hH hl h1 h2
  exact va_alen (ty := .int) B.1 B.2.1 B.2.2.2.2.2.1 (hH.1.one ha) 0 0 rfl rfl hv hd (kk p e R s m args below meth c A B H locs cells slots ls hH hl h1 h2)
theorem V_alenJ (pc : Nat) {a n : Nat} {f : Nat → Int64} (v : Int32) (hd : decode cc pc = .ok (.arraylength, 1)) (ha : h a = some (aJ G n f)) (hv : Int32.ofNat n = v) (kk : V l G own cc nL rt ini d kc ks Post (pc + 1) lv (.int v :: st) h sz) : V l G own cc nL rt ini d kc ks Post pc lv (.ref a :: st) h sz := by
  intro p e R s m args below meth c A B H locs cells slots ls hH hl h1 h2
  exact va_alen (ty := .long) B.1 B.2.1 B.2.2.2.2.2.1 (hH.1.one ha) 0 1 rfl rfl hv hd (kk p e R s m args below meth c A B H locs cells slots ls hH hl h1 h2)
theorem V_iast (pc : Nat) {a n : Nat} {f : Nat → Int32} {i x : Int32} (hd : decode cc pc = .ok (.iastore, 1)) (ha : h a = some (aI G n f)) (hin : vp_in i n) (kk : V l G own cc nL rt ini d kc ks Post (pc + 1) lv st (hpS h a (aI G n (upd f i.toNatClampNeg x))) sz) : V l G own cc nL rt ini d kc ks Post pc lv (.int x :: .int i :: .ref a :: st) h sz := by
  intro p e R s m args below meth c A B H locs cells slots ls hH hl h1 h2
  have hK := B.2.2.2.2.2.1
  refine W.iast B.1 B.2.1 (hH.1 a _ ha) ((hK.2 0 _ rfl).1 n (fun j => .int (f j))) (fun q => by cases q) (by show ¬ (i < 0 ∨ (arrV _ _ _).slots.size ≤ _); rw [arrV_size]; exact hin) rfl rfl hd fun H1 e1 z oq => ?_
  refine kk p e R s m args below meth c A B H1 _ cells slots ls (hH.upd ha ?_ z oq) hl h1 h2
  show H1[a]? = some (vp_cell _ _)
  rw [e1, vp_cell_i, vp_cell_i, arrV_store]
  congr 2
  funext q
  by_cases hq : q = i.toNatClampNeg <;> simp [updV, upd, hq]
theorem V_last (pc : Nat) {a n : Nat} {f : Nat → Int64} {i : Int32} {x : Int64} (hd : decode cc pc = .ok (.lastore, 1)) (ha : h a = some (aJ G n f)) (hin : vp_in i n) (kk : V l G own cc nL rt ini d kc ks Post (pc + 1) lv st (hpS h a (aJ G n (vp_updL f i.toNatClampNeg x))) sz) : V l G own cc nL rt ini d kc ks Post pc lv (.long x :: .int i :: .ref a :: st) h sz := by
  intro p e R s m args below meth c A B H locs cells slots ls hH hl h1 h2
  have hK := B.2.2.2.2.2.1
  refine W.last B.1 B.2.1 (hH.1 a _ ha) ((hK.2 1 _ rfl).1 n (fun j => .long (f j))) (fun q => by cases q) (by show ¬ (i < 0 ∨ (arrV _ _ _).slots.size ≤ _); rw [arrV_size]; exact hin) rfl rfl hd fun H1 e1 z oq => ?_
  refine kk p e R s m args below meth c A B H1 _ cells slots ls (hH.upd ha ?_ z oq) hl h1 h2
  show H1[a]? = some (vp_cell _ _)
  rw [e1, vp_cell_l, vp_cell_l, arrV_store]
  congr 2
  funext q
  by_cases hq : q = i.toNatClampNeg <;> simp [updV, vp_updL, hq]
theorem V_aast (pc : Nat) {a n v : Nat} {f : Nat → Option Nat} {i : Int32} {vs : List Value} (hd : decode cc pc = .ok (.aastore, 1)) (ha : h a = some (aR G n f)) (hv : h v = some (ob 0 vs)) (hin : vp_in i n) (kk : V l G own cc nL rt ini d kc ks Post (pc + 1) lv st (hpS h a (aR G n (va_up f i.toNatClampNeg (some v)))) sz) : V l G own cc nL rt ini d kc ks Post pc lv (.ref v :: .int i :: .ref a :: st) h sz := by
  intro p e R s m args below meth c A B H locs cells slots ls hH hl h1 h2
  have hK := B.2.2.2.2.2.1
  have hlt : i.toNatClampNeg < n := Nat.not_le.mp fun q => hin (Or.inr q)
  have h0 : ¬ i < 0 := fun q => hin (Or.inl q)
  obtain ⟨r', hr', cellV, g1, g2, g3, -⟩ := hH.1 v _ hv
  have hcls := (hK.1 0 (RX0, TX0, 8) rfl).2
  obtain ⟨kA, comp, k1, k2, k3, -⟩ := (hK.2 2 _ rfl).2
  have hcomp : comp = G.1.1 0 := Option.some.inj (k3.symm.trans hcls.1)
  subst hcomp
  have hkC := hcls.2
  obtain ⟨kC, hkC, -⟩ := hkC
  refine W.aast B.1 B.2.1 (hH.1 a _ ha) (fun q h => by cases h) (fun h => by cases h) k1 k2 rfl hkC ⟨h0, by show _ < (arrV _ _ _).slots.size; rw [arrV_size]; exact hlt⟩ g1 (fun q h => by rw [g3] at h; cases h) (by rw [g2]; exact hkC) (by rw [g2]; exact va_assign hcls) rfl rfl hd fun H1 e1 z oq => ?_
  refine kk p e R s m args below meth c A B H1 _ cells slots ls (hH.upd ha ?_ z oq) hl h1 h2
  show H1[a]? = some (vp_cell _ _)
  rw [e1, vp_cell_q, vp_cell_q, arrV_store]
  congr 2
  funext q
  by_cases hq : q = i.toNatClampNeg
  · subst hq
    simp [updV, va_up, va_rf]
  · simp [updV, va_up, hq]
end VH
end
section
def zG1 (w : Cond) : Prop := w ∈ lw_tbl ∧ goodWord w = true
theorem zG1.w {w : Cond} (h : zG1 w) : zW w := ⟨h.1, by rw [h.2]; rfl⟩
theorem zG1.at {w : Cond} (i : Nat) (h : lw_tbl[i]? = some w) (h2 : goodWord w = true) : zG1 w := ⟨List.mem_of_getElem? h, h2⟩
theorem zG1.good {w : Cond} (h : zG1 w) : (w.onTables && w.keeps) = true ∨ ∃ ty, w = .arrayClass ty := good_of_word h.2
theorem zgood_in {w0 : Cond} (hc : zG1 w0) : ∀ w ∈ (w0 :: zws), zG1 w := by
  intro w hw
  rcases List.mem_cons.mp hw with rfl | hw
  · exact hc
  · exact List.mem_filter.mp hw
/-- what an allocation needs -/
def zNw (own : String) (idx ci N : Nat) (fs : List Value) : Prop := ∃ (C : String) (T : u_T) (ty : Nat → FieldType), zCls ci C T N ∧ (∀ k, k < N → parseFieldDescriptor (T k).2.2.1 = some (ty k)) ∧ zW (.classLink own idx C) ∧ zW (.instantiable C N) ∧ zW (.initialized C) ∧ (∀ j, j < N → defaultValue (ty j) = vp_V fs j)
/-- a call site -/
def zKV (own : String) (idx : Nat) (C : String) (y : MethodName) (cc : ByteArray) (nL : Nat) (rt : Option FieldType) (n : Nat) : Prop :=
  zG1 (.methodLink own idx y) ∧ zG1 (.instanceMethod y) ∧ zG1 (.selects C y y) ∧ zG1 (.initialized C) ∧ zG1 (.code y cc nL rt) ∧ (y.cls = C ∧ y.cls ≠ "java/lang/invoke/MethodHandle" ∧ y.cls ≠ "java/lang/invoke/VarHandle" ∧ (parseMethodDescriptor y.desc).map (fun d => d.parameters.length) = some n) ∧ nL ≤ 21
def zKS (own : String) (idx : Nat) (y : MethodName) (cc : ByteArray) (nL : Nat) (rt : Option FieldType) (n : Nat) : Prop :=
  (zG1 (.methodLink own idx y) ∨ ∃ host, zW (.methodLinkNest own idx y host)) ∧ zG1 (.static y) ∧ zG1 (.initialized y.cls) ∧ zG1 (.code y cc nL rt) ∧ (y.cls ≠ "java/lang/invoke/MethodHandle" ∧ y.cls ≠ "java/lang/invoke/VarHandle" ∧ (parseMethodDescriptor y.desc).map (fun d => d.parameters.length) = some n) ∧ nL ≤ 21
def zKI (own : String) (idx : Nat) (y : MethodName) (cc : ByteArray) (nL : Nat) (n : Nat) : Prop :=
  (zG1 (.methodLink own idx y) ∨ ∃ host, zW (.methodLinkNest own idx y host)) ∧ zG1 (.instanceMethod y) ∧ zG1 (.initialized y.cls) ∧ zG1 (.code y cc nL none) ∧ y.name = "<init>" ∧ (y.cls ≠ "java/lang/invoke/MethodHandle" ∧ y.cls ≠ "java/lang/invoke/VarHandle" ∧ (parseMethodDescriptor y.desc).map (fun d => d.parameters.length) = some n) ∧ nL ≤ 21
section ZC
variable {p : Program} {l : Launch} {e : Env} {R : Room} {s : State} {m : MethodId} {args : Array Value} {below : List Frame} {meth : Method} {c : Code} {H : Heap} {locs : List Loc} {cells slots : Nat} {Q : State → Prop}
theorem zcall {G : zGT} {P1 : Option Value → hpT → Nat → Prop} {A A1 : Nat → Prop} {mc ms pc : Nat} {ls : Array Slot} {st0 rest : List Value} {a : Array Value} (hr : va_Run p l e R s m args below meth c H locs cells slots mc ms (F0 m pc ls st0) rest (zQ G P1 A1 a) A1) (hS : va_S A s.heap H locs) (hA : ∀ q, A1 q → A q)
    (kk : ∀ (r : Option Value) (h1 : hpT) (sz1 : Nat) (H1 : Heap) (locs1 : List Loc), P1 r h1 sz1 → zH G h1 sz1 A s H1 locs1 → W p l e R s m args below meth c H1 locs1 (cells + mc) (slots + ms) Q (F0 m (pc + 3) ls (r.toList ++ rest))) : W p l e R s m args below meth c H locs cells slots Q (F0 m pc ls st0) := by
  intro T hT X
  obtain ⟨v, st₀, t, T', L, h0, X', hL, e1, e2, ⟨r, h1, sz1, hv, hp, hP, hA1, hsz, hz, hk⟩, st⟩ := hr T hT X
  cases hv
  rw [h0] at hz hk
  obtain ⟨t2, a1, b1⟩ := kk v h1 sz1 T'.heap (locs ++ L) hp ⟨by rw [e1]; exact hP, fun a x ha => hA a (hA1 a x ha), by rw [e1]; exact hsz, Nat.le_trans hS.1 (by rw [e1]; exact hz), fun q g1 g2 => by
      rw [e1, hk q (Nat.lt_of_lt_of_le g1 hS.1) (fun z => g2 (hA q z))]
      exact hS.2.1 q g1 g2, fun q hq => by
      rcases List.mem_append.mp hq with h | h
      · exact hS.2.2 q h
      · exact hA _ (hL q h)⟩ T' rfl X'
  exact ⟨t2, st t2 a1, b1⟩
theorem zblind {G : zGT} {As : List Value} {h : hpT} {sz : Nat} : FrameBlind (va_Pc As (fun U => zP G h U.heap ∧ U.heap.size = sz ∧ va_K G.1 vwCl (ztys G) U ∧ zNF U)) := fun a U g mk q => by
  obtain ⟨q0, q1, q2, q3, q4⟩ := q
  exact ⟨q0, q1, q2, va_K.moved (u := U) (U := U.calling g mk a) (Vm.Alike.refl U.vm) q3, zNF.same (u := U) (U := U.calling g mk a) rfl q4⟩
theorem zpre {G : zGT} {As : List Value} {h : hpT} {sz : Nat} (hP : zP G h H) (hsz : H.size = sz) (hK : va_K G.1 vwCl (ztys G) s) (hN : zNF s) : ∀ U : State, U.heap = H → s.WarmedH U.vm → va_Pc As (fun U => zP G h U.heap ∧ U.heap.size = sz ∧ va_K G.1 vwCl (ztys G) U ∧ zNF U) As.toArray U := fun U hU hW => ⟨rfl, by rw [hU]; exact hP, by rw [hU]; exact hsz, va_K.moved hW.alike hK, hN.warm hW⟩
theorem zA_in {G : zGT} {h : hpT} {sz : Nat} {A : Nat → Prop} {H : Heap} {locs : List Loc} (hH : zH G h sz A s H locs) (hA : ∀ q, s.heap.size ≤ q → A q) : ∀ q, zA h sz q → A q := by
  rintro q (⟨x, hx⟩ | hq)
  · exact hH.2.1 q x hx
  · refine hA q (Nat.le_trans hH.2.2.2.1 ?_)
    rw [hH.2.2.1]
    exact hq
end ZC
section VC
variable {l : Launch} {G : zGT} {own : String} {cc : ByteArray} {nL : Nat} {rt : Option FieldType} {ini : Bool} {d kc ks : Nat} {Post : Option Value → hpT → Nat → Prop} {lv : List (Option Value)} {st : List Value} {h : hpT} {sz : Nat}
set_option maxHeartbeats 1000000 in
theorem V_callV (pc : Nat) {idx : Nat} {C : String} {y : MethodName} {cc1 : ByteArray} {nL1 n d1 kc1 ks1 b ci : Nat} {rt1 : Option FieldType} {As rest : List Value} {fs : List Value} {T : u_T} {N : Nat} (hd : decode cc pc = .ok (.invokevirtual idx, 3)) (hk : zKV own idx C y cc1 nL1 rt1 n) (hb1 : h b = some (ob ci fs)) (hci : vwCl[ci]? = some (C, T, N)) (hn : As.length = n) (hst : st = As.reverse ++ .ref b :: rest) (hw : Nat.ble (rest.map fun v => v.category).sum 8 = true) (hdd : Nat.ble (d1 + 1) d = true)
    (hC : Cn l G y cc1 nL1 rt1 d1 kc1 ks1 (.ref b :: As) h sz (fun r h1 sz1 => V l G own cc nL rt ini d kc ks Post (pc + 3) lv (r.toList ++ rest) h1 sz1)) : V l G own cc nL rt ini d (kc + kc1) (ks + ks1) Post pc lv st h sz := by
  intro p e R s m args below meth c A B H locs cells slots ls hH hl h1 h2
  have B0 := B
  obtain ⟨hx, hb, hml, hown, hts, hK, hN, hr, hlk, hin, hA, hfr, hlo⟩ := B
  obtain ⟨k1, k2, k3, k4, k5, k6, k7⟩ := hk
  have hdd' := Nat.le_of_ble_eq_true hdd
  subst hst
  have hG : ∀ w ∈ wsV own idx C y (.code y cc1 nL1 rt1 :: zws), zG1 w := by
    intro w hw
    rcases List.mem_append.mp hw with hw | hw
    · simp only [List.mem_cons, List.not_mem_nil, or_false] at hw
      rcases hw with rfl | rfl | rfl | rfl <;> assumption
    · exact zgood_in k5 w hw
  have hT : ∀ w ∈ wsV own idx C y (.code y cc1 nL1 rt1 :: zws), w.before args s = true := fun w hw => hts w (hG w hw).w
  obtain ⟨r', hr', cellB, g1, g2, g3, -⟩ := hH.1 b _ hb1
  refine zcall (va_runV (C := C) (As := As) (rest := rest) ⟨hx, hb, hml, hown, hT⟩ hC (cwV n hT (fun w hw => ⟨hw, (hG w hw).good⟩) rfl rfl rfl k6 ⟨Nat.le_trans hdd' hfr, by show 8 + (nL1 + 11) + 40 * d1 ≤ R.locals; omega⟩) ⟨zblind, ⟨cellB, g1, by rw [g3]; rfl, by rw [g2]; exact (hK.1 ci _ hci).2.1⟩, zpre (As := .ref b :: As) hH.1 hH.2.2.1 hK hN⟩ rfl hn hl.1 rfl (lv_room (Nat.le_of_ble_eq_true hw)) hd ⟨by omega, by omega⟩) hH.2.2.2 (zA_in hH hA) (fun r h1' sz1 H1 locs1 hp hH1 => hp p e R s m args below meth c A B0 H1 locs1 (cells + kc1) (slots + ks1) ls hH1 hl (by omega) (by omega))
set_option maxHeartbeats 1000000 in
theorem V_callS (pc : Nat) {idx : Nat} {y : MethodName} {cc1 : ByteArray} {nL1 n d1 kc1 ks1 : Nat} {rt1 : Option FieldType} {As rest : List Value} (hd : decode cc pc = .ok (.invokestatic idx, 3)) (hk : zKS own idx y cc1 nL1 rt1 n) (hn : As.length = n) (hst : st = As.reverse ++ rest) (hw : Nat.ble (rest.map fun v => v.category).sum 8 = true) (hdd : Nat.ble (d1 + 1) d = true)
    (hC : Cn l G y cc1 nL1 rt1 d1 kc1 ks1 As h sz (fun r h1 sz1 => V l G own cc nL rt ini d kc ks Post (pc + 3) lv (r.toList ++ rest) h1 sz1)) : V l G own cc nL rt ini d (kc + kc1) (ks + ks1) Post pc lv st h sz := by
  intro p e R s m args below meth c A B H locs cells slots ls hH hl h1 h2
  have B0 := B
  obtain ⟨hx, hb, hml, hown, hts, hK, hN, hr, hlk, hin, hA, hfr, hlo⟩ := B
  obtain ⟨k1, k2, k3, k4, k5, k6⟩ := hk
  have hdd' := Nat.le_of_ble_eq_true hdd
  subst hst
  have hG := zgood_in k4
  have hT : ∀ w ∈ (.code y cc1 nL1 rt1 :: zws), w.before args s = true := fun w hw => hts w (hG w hw).w
  rcases k1 with k1 | ⟨host, k1⟩
  · refine zcall (va_runS (As := As) (rest := rest) ⟨hx, hb, hml, hown, hT⟩ hC ⟨callB_of n hT (fun w hw => ⟨hw, (hG w hw).good⟩) rfl rfl rfl (hts _ k3.w) (hts _ k1.w) k5 ⟨Nat.le_trans hdd' hfr, by show 8 + (nL1 + 11) + 40 * d1 ≤ R.locals; omega⟩, hts _ k2.w⟩ ⟨zblind, zpre (As := As) hH.1 hH.2.2.1 hK hN⟩ rfl hn hl.1 rfl (lv_room (Nat.le_of_ble_eq_true hw)) hd ⟨by omega, by omega⟩) hH.2.2.2 (zA_in hH hA) (fun r h1' sz1 H1 locs1 hp hH1 => hp p e R s m args below meth c A B0 H1 locs1 (cells + kc1) (slots + ks1) ls hH1 hl (by omega) (by omega))
  · refine zcall (va_runSN (As := As) (rest := rest) ⟨hx, hb, hml, hown, hT⟩ hC ⟨va_cnB n hT (fun w hw => ⟨hw, (hG w hw).good⟩) rfl rfl rfl (va_Nw.of rfl (hts _ k1)) (hts _ k3.w) k5 ⟨Nat.le_trans hdd' hfr, by show 8 + (nL1 + 11) + 40 * d1 ≤ R.locals; omega⟩, hts _ k2.w, trivial⟩ ⟨zblind, zpre (As := As) hH.1 hH.2.2.1 hK hN⟩ rfl hn hl.1 rfl (lv_room (Nat.le_of_ble_eq_true hw)) hd ⟨by omega, by omega⟩) hH.2.2.2 (zA_in hH hA) (fun r h1' sz1 H1 locs1 hp hH1 => hp p e R s m args below meth c A B0 H1 locs1 (cells + kc1) (slots + ks1) ls hH1 hl (by omega) (by omega))
set_option maxHeartbeats 1000000 in
theorem V_callI (pc : Nat) {idx : Nat} {y : MethodName} {cc1 : ByteArray} {nL1 n d1 kc1 ks1 b : Nat} {As rest : List Value} (hd : decode cc pc = .ok (.invokespecial idx, 3)) (hk : zKI own idx y cc1 nL1 n) (hn : As.length = n) (hst : st = As.reverse ++ .ref b :: rest) (hw : Nat.ble (rest.map fun v => v.category).sum 8 = true) (hdd : Nat.ble (d1 + 1) d = true)
    (hC : Cn l G y cc1 nL1 none d1 kc1 ks1 (.ref b :: As) h sz (fun r h1 sz1 => V l G own cc nL rt ini d kc ks Post (pc + 3) lv (r.toList ++ rest) h1 sz1)) : V l G own cc nL rt ini d (kc + kc1) (ks + ks1) Post pc lv st h sz := by
  intro p e R s m args below meth c A B H locs cells slots ls hH hl h1 h2
  have B0 := B
  obtain ⟨hx, hb, hml, hown, hts, hK, hN, hr, hlk, hin, hA, hfr, hlo⟩ := B
  obtain ⟨k1, k2, k3, k4, k5, k6, k7⟩ := hk
  have hdd' := Nat.le_of_ble_eq_true hdd
  subst hst
  have hG := zgood_in k4
  have hT : ∀ w ∈ (.code y cc1 nL1 none :: zws), w.before args s = true := fun w hw => hts w (hG w hw).w
  rcases k1 with k1 | ⟨host, k1⟩
  · refine zcall (va_runI (As := As) (rest := rest) ⟨hx, hb, hml, hown, hT⟩ hC (cwI n hT (fun w hw => ⟨hw, (hG w hw).good⟩) rfl rfl rfl (hts _ k3.w) (hts _ k1.w) (hts _ k2.w) k5 k6 ⟨Nat.le_trans hdd' hfr, by show 8 + (nL1 + 11) + 40 * d1 ≤ R.locals; omega⟩) ⟨zblind, zpre (As := .ref b :: As) hH.1 hH.2.2.1 hK hN⟩ rfl hn hl.1 rfl (lv_room (Nat.le_of_ble_eq_true hw)) hd ⟨by omega, by omega⟩) hH.2.2.2 (zA_in hH hA) (fun r h1' sz1 H1 locs1 hp hH1 => hp p e R s m args below meth c A B0 H1 locs1 (cells + kc1) (slots + ks1) ls hH1 hl (by omega) (by omega))
  · refine zcall (va_runIN (As := As) (rest := rest) ⟨hx, hb, hml, hown, hT⟩ hC ⟨va_cnB n hT (fun w hw => ⟨hw, (hG w hw).good⟩) rfl rfl rfl (va_Nw.of rfl (hts _ k1)) (hts _ k3.w) k6 ⟨Nat.le_trans hdd' hfr, by show 8 + (nL1 + 11) + 40 * d1 ≤ R.locals; omega⟩, k5, hts _ k2.w⟩ ⟨zblind, zpre (As := .ref b :: As) hH.1 hH.2.2.1 hK hN⟩ rfl hn hl.1 rfl (lv_room (Nat.le_of_ble_eq_true hw)) hd ⟨by omega, by omega⟩) hH.2.2.2 (zA_in hH hA) (fun r h1' sz1 H1 locs1 hp hH1 => hp p e R s m args below meth c A B0 H1 locs1 (cells + kc1) (slots + ks1) ls hH1 hl (by omega) (by omega))
theorem V_obj (pc : Nat) {idx a : Nat} (hd : decode cc pc = .ok (.invokespecial idx, 3)) (k1 : zW (.methodLink own idx objectInit)) (k2 : zW (.instanceMethod objectInit)) (k3 : zW (.code objectInit ⟨#[0xb1]⟩ 1 none)) (hd1 : Nat.ble 1 d = true) (hw : Nat.ble (st.map fun v => v.category).sum 8 = true) (kk : V l G own cc nL rt ini d kc ks Post (pc + 3) lv st h sz) : V l G own cc nL rt ini d kc ks Post pc lv (.ref a :: st) h sz := by
  intro p e R s m args below meth c A B H locs cells slots ls hH hl h1 h2
  have K := kk p e R s m args below meth c A B H locs cells slots ls hH hl h1 h2
  obtain ⟨hx, hb, hml, hown, hts, hK, hN, hr, hlk, hin, hA, hfr, hlo⟩ := B
  have hd1' := Nat.le_of_ble_eq_true hd1
  have hw' := Nat.le_of_ble_eq_true hw
  exact W.objInit hx hb hown (hts _ k1) (hts _ k2) (hts _ k3) rfl (by rw [hml]; exact hl.1) rfl hd (Nat.le_trans hd1' hfr) (by show 2 * 0 + _ + 12 ≤ _; omega) K
set_option maxHeartbeats 1000000 in
theorem V_new (pc : Nat) {idx ci N : Nat} {fs : List Value} (hd : decode cc pc = .ok (.new idx, 3)) (hk : zNw own idx ci N fs) (kk : V l G own cc nL rt ini d kc ks Post (pc + 3) lv (.ref sz :: st) (hpS h sz (ob ci fs)) (sz + 1)) : V l G own cc nL rt ini d (kc + 1) (ks + N) Post pc lv st h sz := by
  intro p e R s m args below meth c A B H locs cells slots ls hH hl h1 h2
  obtain ⟨C, T, ty, ⟨hc, hws, -, -⟩, hty, k1, k2, k3, hfs⟩ := hk
  have B0 := B
  obtain ⟨hx, hb, hml, hown, hts, hK, hN, hr, hlk, hin, hA, hfr, hlo⟩ := B
  have hts1 : ∀ w ∈ u_ws C T N, w.before args s = true := fun w hw => hts w (hws w hw)
  have hKn := hK.1 ci _ hc
  refine W.newcK hx hb hown (hts _ k1) (hts _ k2) (hts _ k3) rfl hd (by omega) (by omega) hKn.2.1 hH.2.2.1 fun H1 kC hkC e1 z1 o1 => ?_
  refine kk p e R s m args below meth c A B0 H1 locs (cells + 1) (slots + N) ls (hH.new hA ?_ z1 o1) hl (by omega) (by omega)
  exact ⟨_, hc, (u_born (ws := u_ws C T N) ty hts1 (fun _ q => q) hKn hkC e1 hty).to hfs⟩
set_option maxHeartbeats 1000000 in
theorem V_newI (pc : Nat) {n : Int32} (N : Nat) (hd : decode cc pc = .ok (.newarray .int, 2)) (hk : zW (.arrayClass .int)) (hn : ¬ n < 0) (hN : n.toNatClampNeg = N) (hbig : Nat.ble N 100000 = true) (kk : V l G own cc nL rt ini d kc ks Post (pc + 2) lv (.ref sz :: st) (hpS h sz (aI G N (fun _ => 0))) (sz + 1)) : V l G own cc nL rt ini d (kc + 1) (ks + N) Post pc lv (.int n :: st) h sz := by
  intro p e R s m args below meth c A B H locs cells slots ls hH hl h1 h2
  have B0 := B
  obtain ⟨hx, hb, hml, hown, hts, hK, hN2, hr, hlk, hin, hA, hfr, hlo⟩ := B
  have hbig' := Nat.le_of_ble_eq_true hbig
  refine va_newaK (atype := .int) hx hb (hts _ hk) rfl hd rfl hn hN (by show N * 4 ≤ _; omega) (by omega) (by omega) hH.2.2.1 fun H1 cA e1 z1 o1 hAr hNm => ?_
  have hcA : cA = G.2.1 := Option.some.inj (hNm.symm.trans ((hK.2 0 _ rfl).2))
  subst hcA
  exact kk p e R s m args below meth c A B0 H1 locs (cells + 1) (slots + N) ls (hH.new hA e1 z1 o1) hl (by omega) (by omega)
set_option maxHeartbeats 1000000 in
theorem V_newJ (pc : Nat) {n : Int32} (N : Nat) (hd : decode cc pc = .ok (.newarray .long, 2)) (hk : zW (.arrayClass .long)) (hn : ¬ n < 0) (hN : n.toNatClampNeg = N) (hbig : Nat.ble N 100000 = true) (kk : V l G own cc nL rt ini d kc ks Post (pc + 2) lv (.ref sz :: st) (hpS h sz (aJ G N (fun _ => 0))) (sz + 1)) : V l G own cc nL rt ini d (kc + 1) (ks + N) Post pc lv (.int n :: st) h sz := by
  intro p e R s m args below meth c A B H locs cells slots ls hH hl h1 h2
  have B0 := B
  obtain ⟨hx, hb, hml, hown, hts, hK, hN2, hr, hlk, hin, hA, hfr, hlo⟩ := B
  have hbig' := Nat.le_of_ble_eq_true hbig
  refine va_newaK (atype := .long) hx hb (hts _ hk) rfl hd rfl hn hN (by show N * 8 ≤ _; omega) (by omega) (by omega) hH.2.2.1 fun H1 cA e1 z1 o1 hAr hNm => ?_
  have hcA : cA = G.2.2.1 := Option.some.inj (hNm.symm.trans ((hK.2 1 _ rfl).2))
  subst hcA
  exact kk p e R s m args below meth c A B0 H1 locs (cells + 1) (slots + N) ls (hH.new hA e1 z1 o1) hl (by omega) (by omega)
set_option maxHeartbeats 1000000 in
theorem V_newR (pc : Nat) {idx : Nat} {n : Int32} (N : Nat) (hd : decode cc pc = .ok (.anewarray idx, 3)) (hk : zW (.classLink own idx RX0)) (hn : ¬ n < 0) (hN : n.toNatClampNeg = N) (hbig : Nat.ble N 100000 = true) (kk : V l G own cc nL rt ini d kc ks Post (pc + 3) lv (.ref sz :: st) (hpS h sz (aR G N (fun _ => none))) (sz + 1)) : V l G own cc nL rt ini d (kc + 1) (ks + N) Post pc lv (.int n :: st) h sz := by
  intro p e R s m args below meth c A B H locs cells slots ls hH hl h1 h2
  have B0 := B
  obtain ⟨hx, hb, hml, hown, hts, hK, hN2, hr, hlk, hin, hA, hfr, hlo⟩ := B
  have hbig' := Nat.le_of_ble_eq_true hbig
  subst hN
  refine W.anew hx hb hown (hts _ hk) (va_AO.use hN2.2) rfl hd rfl hn (by omega) (by omega) (by omega) fun cA kA comp f1 f2 f3 f4 => ?_
  have hcA : cA = G.2.2.2 := by
    obtain ⟨_, _, -, -, -, g4⟩ := (hK.2 2 _ rfl).2
    exact Option.some.inj (f1.symm.trans g4)
  subst hcA
  have hsz := hH.2.2.1
  generalize hH1 : H.push ({ cls := G.2.2.2, slots := Array.replicate n.toNatClampNeg .null, vm := .none } : Cell) = H1
  have z1 : H1.size = H.size + 1 := by rw [← hH1, Array.size_push]
  have e1 : H1[H.size]? = some (arrV G.2.2.2 n.toNatClampNeg (fun _ => .null)) := by rw [← hH1, Array.getElem?_push_size, ← arrV_new]
  have o1 : ∀ q : Nat, q < H.size → H1[q]? = H[q]? := fun q hq => by rw [← hH1, Array.getElem?_push, if_neg (Nat.ne_of_lt hq)]
  rw [hsz] at z1 e1 o1 ⊢
  exact kk p e R s m args below meth c A B0 H1 locs (cells + 1) (slots + n.toNatClampNeg) ls (hH.new hA e1 z1 o1) hl (by omega) (by omega)
theorem V_max (pc : Nat) {idx : Nat} {x y : Int32} (hd : decode cc pc = .ok (.invokestatic idx, 3)) (k1 : zW (.methodLink own idx Lib.Math.max.name)) (k2 : zW (.static Lib.Math.max.name)) (k3 : zW (.initialized "java/lang/Math")) (k4 : zW (.code Lib.Math.max.name Lib.Math.max.code 2 (some .int))) (hd1 : Nat.ble 1 d = true) (hw : Nat.ble (st.map fun v => v.category).sum 8 = true) (kk : V l G own cc nL rt ini d kc ks Post (pc + 3) lv (.int (if x < y then y else x) :: st) h sz) : V l G own cc nL rt ini d kc ks Post pc lv (.int y :: .int x :: st) h sz := by
  intro p e R s m args below meth c A B H locs cells slots ls hH hl h1 h2
  have K := kk p e R s m args below meth c A B H locs cells slots ls hH hl h1 h2
  obtain ⟨hx, hb, hml, hown, hts, hK, hN, hr, hlk, hin, hA, hfr, hlo⟩ := B
  have hd1' := Nat.le_of_ble_eq_true hd1
  have hw' := Nat.le_of_ble_eq_true hw
  exact va_mmax hx hb (by rw [hml]; exact hl.1.symm) hown (hts _ k1) (hts _ k2) (hts _ k3) (hts _ k4) (Nat.le_trans hd1' hfr) (by omega) (by omega) (by omega) hd K
theorem V_min (pc : Nat) {idx : Nat} {x y : Int32} (hd : decode cc pc = .ok (.invokestatic idx, 3)) (k1 : zW (.methodLink own idx Lib.Math.min.name)) (k2 : zW (.static Lib.Math.min.name)) (k3 : zW (.initialized "java/lang/Math")) (k4 : zW (.code Lib.Math.min.name Lib.Math.min.code 2 (some .int))) (hd1 : Nat.ble 1 d = true) (hw : Nat.ble (st.map fun v => v.category).sum 8 = true) (kk : V l G own cc nL rt ini d kc ks Post (pc + 3) lv (.int (if y < x then y else x) :: st) h sz) : V l G own cc nL rt ini d kc ks Post pc lv (.int y :: .int x :: st) h sz := by
  intro p e R s m args below meth c A B H locs cells slots ls hH hl h1 h2
  have K := kk p e R s m args below meth c A B H locs cells slots ls hH hl h1 h2
  obtain ⟨hx, hb, hml, hown, hts, hK, hN, hr, hlk, hin, hA, hfr, hlo⟩ := B
  have hd1' := Nat.le_of_ble_eq_true hd1
  have hw' := Nat.le_of_ble_eq_true hw
  exact va_mmin hx hb (by rw [hml]; exact hl.1.symm) hown (hts _ k1) (hts _ k2) (hts _ k3) (hts _ k4) (Nat.le_trans hd1' hfr) (by omega) (by omega) (by omega) hd K
set_option maxHeartbeats 2000000 in
/-- System.arraycopy of ints -/
theorem V_copy (pc : Nat) {idx a a0 n0 n1 : Nat} {f g : Nat → Int32} {sp dp n : Int32} (hd : decode cc pc = .ok (.invokestatic idx, 3)) (k1 : zW (.methodLink own idx arraycopyName)) (k2 : zW (.native arraycopyName)) (k3 : zW (.static arraycopyName)) (k4 : zW (.initialized "java/lang/System")) (hd1 : Nat.ble 1 d = true) (hw : Nat.ble ((st.map fun v => v.category).sum + (nativeFrameWords "java/lang/System" "arraycopy" 5 + 11)) 40 = true) (ha0 : h a0 = some (aI G n0 f)) (ha : h a = some (aI G n1 g)) (c1 : ¬ sp < 0) (c2 : ¬ dp < 0) (c3 : ¬ n < 0) (c4 : sp.toNatClampNeg + n.toNatClampNeg ≤ n0) (c5 : dp.toNatClampNeg + n.toNatClampNeg ≤ n1) (kk : V l G own cc nL rt ini d kc ks Post (pc + 3) lv st (hpS h a (aI G n1 (va_cpy f g sp.toNatClampNeg dp.toNatClampNeg n.toNatClampNeg))) sz) : V l G own cc nL rt ini d kc ks Post pc lv (.int n :: .int dp :: .ref a :: .int sp :: .ref a0 :: st) h sz := by
  intro p e R s m args below meth c A B H locs cells slots ls hH hl h1 h2
  have B0 := B
  obtain ⟨hx, hb, hml, hown, hts, hK, hN, hr, hlk, hin, hA, hfr, hlo⟩ := B
  have hd1' := Nat.le_of_ble_eq_true hd1
  have hw' := Nat.le_of_ble_eq_true hw
  have nn : ∀ z : Int32, ¬ z < 0 → z.toInt = (z.toNatClampNeg : Int) := by
    intro z hz
    have hz0 : (0 : Int) ≤ z.toInt := by simpa using Int32.le_iff_toInt_le.mp (Int32.not_lt.mp hz)
    show z.toInt = ((z.toInt.toNat : Nat) : Int)
    omega
  intro T hT X
  have hc0 : H[a0]? = some (vp_cell G.2.1 (n0, .inl f)) := hH.1 a0 _ ha0
  have hc1 : H[a]? = some (vp_cell G.2.1 (n1, .inl g)) := hH.1 a _ ha
  obtain ⟨-, kA, hkA, cmA, hkkA⟩ := (hK.2 0 _ rfl).1 n0 (fun j => .int (f j))
  obtain ⟨vm', X', step⟩ := X.arraycopy hx hown (hts _ k1) (hts _ k2) (hts _ k3) (hts _ k4) (src := a0) (dst := a) (cs := vp_cell G.2.1 (n0, .inl f)) (cd := vp_cell G.2.1 (n1, .inl g)) (srcPos := sp) (destPos := dp) (n := n) (by rw [hT]; exact hc0) (by rw [hT]; exact hc1)
    (fun _ q => by cases q) (fun _ q => by cases q) (fun q => by cases q) (fun q => by cases q) hkA hkA hkkA hkkA (by simp [refKind]) c1 c2 c3
    (by rw [nn sp c1, nn n c3]; show ¬ _ > ((arrV G.2.1 n0 (fun j => .int (f j))).slots.size : Int); rw [arrV_size]; omega)
    (by rw [nn dp c2, nn n c3]; show ¬ _ > ((arrV G.2.1 n1 (fun j => .int (g j))).slots.size : Int); rw [arrV_size]; omega)
    (fun vm₁ _ i hi => by
      have e0 : (vp_cell G.2.1 (n0, .inl f)).slots.getD (sp.toNatClampNeg + i) .null = .int (f (sp.toNatClampNeg + i)) := by
        show (arrV G.2.1 n0 (fun j => .int (f j))).slots.getD _ _ = _
        rw [Array.getD_eq_getD_getElem?, arrV_read _ _ (by omega)]
        rfl
      rw [e0]
      exact ⟨rfl, trivial⟩)
    (g := F0 m pc ls (.int n :: .int dp :: .ref a :: .int sp :: .ref a0 :: st)) rfl (by rw [hml]; exact hl.1) (rest := st) rfl (by rw [hb]; exact hd) (Nat.le_trans hd1' hfr) (by show 2 * 0 + _ + _ ≤ _; omega)
  have e1 : copied (vp_cell G.2.1 (n0, .inl f)) (vp_cell G.2.1 (n1, .inl g)) sp dp n = vp_cell G.2.1 (n1, .inl (va_cpy f g sp.toNatClampNeg dp.toNatClampNeg n.toNatClampNeg)) := va_copied (fun z => .int z) G.2.1 G.2.1 f g c4
  rw [e1] at X' step
  have hlt : a < H.size := (Array.getElem?_eq_some_iff.mp hc1).1
  generalize hcl : vp_cell G.2.1 (n1, .inl (va_cpy f g sp.toNatClampNeg dp.toNatClampNeg n.toNatClampNeg)) = cell at X' step
  have hheap : ((T.setVm vm').setCell a cell).heap = H.setIfInBounds a cell := by rw [← hT]; rfl
  have oq : ∀ q : Nat, q ≠ a → (H.setIfInBounds a cell)[q]? = H[q]? := fun q hq => by simp [Array.getElem?_setIfInBounds, Ne.symm hq]
  have hH1 := hH.upd (k := 0) (e := aI G n1 (va_cpy f g sp.toNatClampNeg dp.toNatClampNeg n.toNatClampNeg)) (H1 := H.setIfInBounds a cell) ha (by show (H.setIfInBounds a cell)[a]? = some (vp_cell _ _); rw [hcl]; simp [Array.getElem?_setIfInBounds, hlt]) (by simp) oq
  obtain ⟨t, a1, b1⟩ := kk p e R s m args below meth c A B0 (H.setIfInBounds a cell) _ cells slots ls ⟨hH1.1, hH1.2.1, hH1.2.2.1, hH1.2.2.2.1, hH1.2.2.2.2.1, fun q hq => by
      rcases List.mem_append.mp hq with z | z
      · exact hH.2.2.2.2.2 q z
      · obtain ⟨z1, -, hz⟩ := List.mem_map.mp z
        rw [← hz]
        exact hH.2.1 a _ ha⟩ hl h1 h2 _ hheap X'
  exact ⟨t, step t a1, b1⟩
theorem V_iv0 (pc : Nat) {idx : Nat} {C : String} {y : MethodName} {cc1 : ByteArray} {nL1 d1 b ci : Nat} {rt1 : Option FieldType} {rest : List Value} {fs : List Value} {T : u_T} {N : Nat} (hd : decode cc pc = .ok (.invokevirtual idx, 3)) (hk : zKV own idx C y cc1 nL1 rt1 0) (hci : vwCl[ci]? = some (C, T, N)) (hb1 : h b = some (ob ci fs)) (hw : Nat.ble (rest.map fun v => v.category).sum 8 = true) (hdd : Nat.ble (d1 + 1) d = true) (hC : Cn l G y cc1 nL1 rt1 d1 0 0 (.ref b :: []) h sz (fun r h1 sz1 => V l G own cc nL rt ini d kc ks Post (pc + 3) lv (r.toList ++ rest) h1 sz1)) : V l G own cc nL rt ini d kc ks Post pc lv (.ref b :: rest) h sz := V_callV (kc1 := 0) (ks1 := 0) pc (As := []) hd hk hb1 hci rfl rfl hw hdd hC
theorem V_iv1 (pc : Nat) {idx : Nat} {C : String} {y : MethodName} {cc1 : ByteArray} {nL1 d1 b ci : Nat} {rt1 : Option FieldType} {v1 : Value} {rest : List Value} {fs : List Value} {T : u_T} {N : Nat} (hd : decode cc pc = .ok (.invokevirtual idx, 3)) (hk : zKV own idx C y cc1 nL1 rt1 1) (hci : vwCl[ci]? = some (C, T, N)) (hb1 : h b = some (ob ci fs)) (hw : Nat.ble (rest.map fun v => v.category).sum 8 = true) (hdd : Nat.ble (d1 + 1) d = true) (hC : Cn l G y cc1 nL1 rt1 d1 0 0 (.ref b :: [v1]) h sz (fun r h1 sz1 => V l G own cc nL rt ini d kc ks Post (pc + 3) lv (r.toList ++ rest) h1 sz1)) : V l G own cc nL rt ini d kc ks Post pc lv (v1 :: .ref b :: rest) h sz := V_callV (kc1 := 0) (ks1 := 0) pc (As := [v1]) hd hk hb1 hci rfl rfl hw hdd hC
theorem V_iv2 (pc : Nat) {idx : Nat} {C : String} {y : MethodName} {cc1 : ByteArray} {nL1 d1 b ci : Nat} {rt1 : Option FieldType} {v1 v2 : Value} {rest : List Value} {fs : List Value} {T : u_T} {N : Nat} (hd : decode cc pc = .ok (.invokevirtual idx, 3)) (hk : zKV own idx C y cc1 nL1 rt1 2) (hci : vwCl[ci]? = some (C, T, N)) (hb1 : h b = some (ob ci fs)) (hw : Nat.ble (rest.map fun v => v.category).sum 8 = true) (hdd : Nat.ble (d1 + 1) d = true) (hC : Cn l G y cc1 nL1 rt1 d1 0 0 (.ref b :: [v1, v2]) h sz (fun r h1 sz1 => V l G own cc nL rt ini d kc ks Post (pc + 3) lv (r.toList ++ rest) h1 sz1)) : V l G own cc nL rt ini d kc ks Post pc lv (v2 :: v1 :: .ref b :: rest) h sz := V_callV (kc1 := 0) (ks1 := 0) pc (As := [v1, v2]) hd hk hb1 hci rfl rfl hw hdd hC
theorem V_iv3 (pc : Nat) {idx : Nat} {C : String} {y : MethodName} {cc1 : ByteArray} {nL1 d1 b ci : Nat} {rt1 : Option FieldType} {v1 v2 v3 : Value} {rest : List Value} {fs : List Value} {T : u_T} {N : Nat} (hd : decode cc pc = .ok (.invokevirtual idx, 3)) (hk : zKV own idx C y cc1 nL1 rt1 3) (hci : vwCl[ci]? = some (C, T, N)) (hb1 : h b = some (ob ci fs)) (hw : Nat.ble (rest.map fun v => v.category).sum 8 = true) (hdd : Nat.ble (d1 + 1) d = true) (hC : Cn l G y cc1 nL1 rt1 d1 0 0 (.ref b :: [v1, v2, v3]) h sz (fun r h1 sz1 => V l G own cc nL rt ini d kc ks Post (pc + 3) lv (r.toList ++ rest) h1 sz1)) : V l G own cc nL rt ini d kc ks Post pc lv (v3 :: v2 :: v1 :: .ref b :: rest) h sz := V_callV (kc1 := 0) (ks1 := 0) pc (As := [v1, v2, v3]) hd hk hb1 hci rfl rfl hw hdd hC
theorem V_iv4 (pc : Nat) {idx : Nat} {C : String} {y : MethodName} {cc1 : ByteArray} {nL1 d1 b ci : Nat} {rt1 : Option FieldType} {v1 v2 v3 v4 : Value} {rest : List Value} {fs : List Value} {T : u_T} {N : Nat} (hd : decode cc pc = .ok (.invokevirtual idx, 3)) (hk : zKV own idx C y cc1 nL1 rt1 4) (hci : vwCl[ci]? = some (C, T, N)) (hb1 : h b = some (ob ci fs)) (hw : Nat.ble (rest.map fun v => v.category).sum 8 = true) (hdd : Nat.ble (d1 + 1) d = true) (hC : Cn l G y cc1 nL1 rt1 d1 0 0 (.ref b :: [v1, v2, v3, v4]) h sz (fun r h1 sz1 => V l G own cc nL rt ini d kc ks Post (pc + 3) lv (r.toList ++ rest) h1 sz1)) : V l G own cc nL rt ini d kc ks Post pc lv (v4 :: v3 :: v2 :: v1 :: .ref b :: rest) h sz := V_callV (kc1 := 0) (ks1 := 0) pc (As := [v1, v2, v3, v4]) hd hk hb1 hci rfl rfl hw hdd hC
theorem V_iv5 (pc : Nat) {idx : Nat} {C : String} {y : MethodName} {cc1 : ByteArray} {nL1 d1 b ci : Nat} {rt1 : Option FieldType} {v1 v2 v3 v4 v5 : Value} {rest : List Value} {fs : List Value} {T : u_T} {N : Nat} (hd : decode cc pc = .ok (.invokevirtual idx, 3)) (hk : zKV own idx C y cc1 nL1 rt1 5) (hci : vwCl[ci]? = some (C, T, N)) (hb1 : h b = some (ob ci fs)) (hw : Nat.ble (rest.map fun v => v.category).sum 8 = true) (hdd : Nat.ble (d1 + 1) d = true) (hC : Cn l G y cc1 nL1 rt1 d1 0 0 (.ref b :: [v1, v2, v3, v4, v5]) h sz (fun r h1 sz1 => V l G own cc nL rt ini d kc ks Post (pc + 3) lv (r.toList ++ rest) h1 sz1)) : V l G own cc nL rt ini d kc ks Post pc lv (v5 :: v4 :: v3 :: v2 :: v1 :: .ref b :: rest) h sz := V_callV (kc1 := 0) (ks1 := 0) pc (As := [v1, v2, v3, v4, v5]) hd hk hb1 hci rfl rfl hw hdd hC
theorem V_iv6 (pc : Nat) {idx : Nat} {C : String} {y : MethodName} {cc1 : ByteArray} {nL1 d1 b ci : Nat} {rt1 : Option FieldType} {v1 v2 v3 v4 v5 v6 : Value} {rest : List Value} {fs : List Value} {T : u_T} {N : Nat} (hd : decode cc pc = .ok (.invokevirtual idx, 3)) (hk : zKV own idx C y cc1 nL1 rt1 6) (hci : vwCl[ci]? = some (C, T, N)) (hb1 : h b = some (ob ci fs)) (hw : Nat.ble (rest.map fun v => v.category).sum 8 = true) (hdd : Nat.ble (d1 + 1) d = true) (hC : Cn l G y cc1 nL1 rt1 d1 0 0 (.ref b :: [v1, v2, v3, v4, v5, v6]) h sz (fun r h1 sz1 => V l G own cc nL rt ini d kc ks Post (pc + 3) lv (r.toList ++ rest) h1 sz1)) : V l G own cc nL rt ini d kc ks Post pc lv (v6 :: v5 :: v4 :: v3 :: v2 :: v1 :: .ref b :: rest) h sz := V_callV (kc1 := 0) (ks1 := 0) pc (As := [v1, v2, v3, v4, v5, v6]) hd hk hb1 hci rfl rfl hw hdd hC
theorem V_iv7 (pc : Nat) {idx : Nat} {C : String} {y : MethodName} {cc1 : ByteArray} {nL1 d1 b ci : Nat} {rt1 : Option FieldType} {v1 v2 v3 v4 v5 v6 v7 : Value} {rest : List Value} {fs : List Value} {T : u_T} {N : Nat} (hd : decode cc pc = .ok (.invokevirtual idx, 3)) (hk : zKV own idx C y cc1 nL1 rt1 7) (hci : vwCl[ci]? = some (C, T, N)) (hb1 : h b = some (ob ci fs)) (hw : Nat.ble (rest.map fun v => v.category).sum 8 = true) (hdd : Nat.ble (d1 + 1) d = true) (hC : Cn l G y cc1 nL1 rt1 d1 0 0 (.ref b :: [v1, v2, v3, v4, v5, v6, v7]) h sz (fun r h1 sz1 => V l G own cc nL rt ini d kc ks Post (pc + 3) lv (r.toList ++ rest) h1 sz1)) : V l G own cc nL rt ini d kc ks Post pc lv (v7 :: v6 :: v5 :: v4 :: v3 :: v2 :: v1 :: .ref b :: rest) h sz := V_callV (kc1 := 0) (ks1 := 0) pc (As := [v1, v2, v3, v4, v5, v6, v7]) hd hk hb1 hci rfl rfl hw hdd hC
theorem V_is1 (pc : Nat) {idx : Nat} {y : MethodName} {cc1 : ByteArray} {nL1 d1 : Nat} {rt1 : Option FieldType} {v1 : Value} {rest : List Value} (hd : decode cc pc = .ok (.invokestatic idx, 3)) (hk : zKS own idx y cc1 nL1 rt1 1) (hw : Nat.ble (rest.map fun v => v.category).sum 8 = true) (hdd : Nat.ble (d1 + 1) d = true) (hC : Cn l G y cc1 nL1 rt1 d1 0 0 [v1] h sz (fun r h1 sz1 => V l G own cc nL rt ini d kc ks Post (pc + 3) lv (r.toList ++ rest) h1 sz1)) : V l G own cc nL rt ini d kc ks Post pc lv (v1 :: rest) h sz := V_callS (kc1 := 0) (ks1 := 0) pc (As := [v1]) hd hk rfl rfl hw hdd hC
theorem V_is2 (pc : Nat) {idx : Nat} {y : MethodName} {cc1 : ByteArray} {nL1 d1 : Nat} {rt1 : Option FieldType} {v1 v2 : Value} {rest : List Value} (hd : decode cc pc = .ok (.invokestatic idx, 3)) (hk : zKS own idx y cc1 nL1 rt1 2) (hw : Nat.ble (rest.map fun v => v.category).sum 8 = true) (hdd : Nat.ble (d1 + 1) d = true) (hC : Cn l G y cc1 nL1 rt1 d1 0 0 [v1, v2] h sz (fun r h1 sz1 => V l G own cc nL rt ini d kc ks Post (pc + 3) lv (r.toList ++ rest) h1 sz1)) : V l G own cc nL rt ini d kc ks Post pc lv (v2 :: v1 :: rest) h sz := V_callS (kc1 := 0) (ks1 := 0) pc (As := [v1, v2]) hd hk rfl rfl hw hdd hC
theorem V_is3 (pc : Nat) {idx : Nat} {y : MethodName} {cc1 : ByteArray} {nL1 d1 : Nat} {rt1 : Option FieldType} {v1 v2 v3 : Value} {rest : List Value} (hd : decode cc pc = .ok (.invokestatic idx, 3)) (hk : zKS own idx y cc1 nL1 rt1 3) (hw : Nat.ble (rest.map fun v => v.category).sum 8 = true) (hdd : Nat.ble (d1 + 1) d = true) (hC : Cn l G y cc1 nL1 rt1 d1 0 0 [v1, v2, v3] h sz (fun r h1 sz1 => V l G own cc nL rt ini d kc ks Post (pc + 3) lv (r.toList ++ rest) h1 sz1)) : V l G own cc nL rt ini d kc ks Post pc lv (v3 :: v2 :: v1 :: rest) h sz := V_callS (kc1 := 0) (ks1 := 0) pc (As := [v1, v2, v3]) hd hk rfl rfl hw hdd hC
theorem V_is4 (pc : Nat) {idx : Nat} {y : MethodName} {cc1 : ByteArray} {nL1 d1 : Nat} {rt1 : Option FieldType} {v1 v2 v3 v4 : Value} {rest : List Value} (hd : decode cc pc = .ok (.invokestatic idx, 3)) (hk : zKS own idx y cc1 nL1 rt1 4) (hw : Nat.ble (rest.map fun v => v.category).sum 8 = true) (hdd : Nat.ble (d1 + 1) d = true) (hC : Cn l G y cc1 nL1 rt1 d1 0 0 [v1, v2, v3, v4] h sz (fun r h1 sz1 => V l G own cc nL rt ini d kc ks Post (pc + 3) lv (r.toList ++ rest) h1 sz1)) : V l G own cc nL rt ini d kc ks Post pc lv (v4 :: v3 :: v2 :: v1 :: rest) h sz := V_callS (kc1 := 0) (ks1 := 0) pc (As := [v1, v2, v3, v4]) hd hk rfl rfl hw hdd hC
theorem V_is5 (pc : Nat) {idx : Nat} {y : MethodName} {cc1 : ByteArray} {nL1 d1 : Nat} {rt1 : Option FieldType} {v1 v2 v3 v4 v5 : Value} {rest : List Value} (hd : decode cc pc = .ok (.invokestatic idx, 3)) (hk : zKS own idx y cc1 nL1 rt1 5) (hw : Nat.ble (rest.map fun v => v.category).sum 8 = true) (hdd : Nat.ble (d1 + 1) d = true) (hC : Cn l G y cc1 nL1 rt1 d1 0 0 [v1, v2, v3, v4, v5] h sz (fun r h1 sz1 => V l G own cc nL rt ini d kc ks Post (pc + 3) lv (r.toList ++ rest) h1 sz1)) : V l G own cc nL rt ini d kc ks Post pc lv (v5 :: v4 :: v3 :: v2 :: v1 :: rest) h sz := V_callS (kc1 := 0) (ks1 := 0) pc (As := [v1, v2, v3, v4, v5]) hd hk rfl rfl hw hdd hC
theorem V_is6 (pc : Nat) {idx : Nat} {y : MethodName} {cc1 : ByteArray} {nL1 d1 : Nat} {rt1 : Option FieldType} {v1 v2 v3 v4 v5 v6 : Value} {rest : List Value} (hd : decode cc pc = .ok (.invokestatic idx, 3)) (hk : zKS own idx y cc1 nL1 rt1 6) (hw : Nat.ble (rest.map fun v => v.category).sum 8 = true) (hdd : Nat.ble (d1 + 1) d = true) (hC : Cn l G y cc1 nL1 rt1 d1 0 0 [v1, v2, v3, v4, v5, v6] h sz (fun r h1 sz1 => V l G own cc nL rt ini d kc ks Post (pc + 3) lv (r.toList ++ rest) h1 sz1)) : V l G own cc nL rt ini d kc ks Post pc lv (v6 :: v5 :: v4 :: v3 :: v2 :: v1 :: rest) h sz := V_callS (kc1 := 0) (ks1 := 0) pc (As := [v1, v2, v3, v4, v5, v6]) hd hk rfl rfl hw hdd hC
theorem V_is7 (pc : Nat) {idx : Nat} {y : MethodName} {cc1 : ByteArray} {nL1 d1 : Nat} {rt1 : Option FieldType} {v1 v2 v3 v4 v5 v6 v7 : Value} {rest : List Value} (hd : decode cc pc = .ok (.invokestatic idx, 3)) (hk : zKS own idx y cc1 nL1 rt1 7) (hw : Nat.ble (rest.map fun v => v.category).sum 8 = true) (hdd : Nat.ble (d1 + 1) d = true) (hC : Cn l G y cc1 nL1 rt1 d1 0 0 [v1, v2, v3, v4, v5, v6, v7] h sz (fun r h1 sz1 => V l G own cc nL rt ini d kc ks Post (pc + 3) lv (r.toList ++ rest) h1 sz1)) : V l G own cc nL rt ini d kc ks Post pc lv (v7 :: v6 :: v5 :: v4 :: v3 :: v2 :: v1 :: rest) h sz := V_callS (kc1 := 0) (ks1 := 0) pc (As := [v1, v2, v3, v4, v5, v6, v7]) hd hk rfl rfl hw hdd hC
end VC
end
section
abbrev wsZ0 : List Cond := u_ws RX0 TX0 8
abbrev wsZ1 : List Cond := u_ws RX1 TX1 6
abbrev wsZ2 : List Cond := u_ws RX2 TX2 3
abbrev wsZ3 : List Cond := u_ws RX3 TX3 3
abbrev wsZ4 : List Cond := u_ws RX4 TX4 5
abbrev wsZ5 : List Cond := u_ws RX5 TX5 7
abbrev wsZ6 : List Cond := u_ws RX6 TX6 31
set_option maxRecDepth 100000 in
theorem zc0 : zCls 0 RX0 TX0 8 := ⟨rfl, by show ∀ w ∈ wsZ0, w ∈ lw_tbl ∧ (goodWord w || zNestB w) = true; decide +kernel, ⟨tyX0, tyX0_ok⟩, nmX0⟩
set_option maxRecDepth 100000 in
theorem zc1 : zCls 1 RX1 TX1 6 := ⟨rfl, by show ∀ w ∈ wsZ1, w ∈ lw_tbl ∧ (goodWord w || zNestB w) = true; decide +kernel, ⟨tyX1, tyX1_ok⟩, nmX1⟩
set_option maxRecDepth 100000 in
theorem zc2 : zCls 2 RX2 TX2 3 := ⟨rfl, by show ∀ w ∈ wsZ2, w ∈ lw_tbl ∧ (goodWord w || zNestB w) = true; decide +kernel, ⟨tyX2, tyX2_ok⟩, nmX2⟩
set_option maxRecDepth 100000 in
theorem zc3 : zCls 3 RX3 TX3 3 := ⟨rfl, by show ∀ w ∈ wsZ3, w ∈ lw_tbl ∧ (goodWord w || zNestB w) = true; decide +kernel, ⟨tyX3, tyX3_ok⟩, nmX3⟩
set_option maxRecDepth 100000 in
theorem zc4 : zCls 4 RX4 TX4 5 := ⟨rfl, by show ∀ w ∈ wsZ4, w ∈ lw_tbl ∧ (goodWord w || zNestB w) = true; decide +kernel, ⟨tyX4, tyX4_ok⟩, nmX4⟩
set_option maxRecDepth 100000 in
theorem zc5 : zCls 5 RX5 TX5 7 := ⟨rfl, by show ∀ w ∈ wsZ5, w ∈ lw_tbl ∧ (goodWord w || zNestB w) = true; decide +kernel, ⟨tyX5, tyX5_ok⟩, nmX5⟩
set_option maxRecDepth 100000 in
theorem zc6 : zCls 6 RX6 TX6 31 := ⟨rfl, by show ∀ w ∈ wsZ6, w ∈ lw_tbl ∧ (goodWord w || zNestB w) = true; decide +kernel, ⟨tyX6, tyX6_ok⟩, nmX6⟩
set_option maxRecDepth 100000 in
theorem clL_7 : zW (.classLink RL 7 "HeadsOfRings") := zW.at 80 rfl rfl
set_option maxRecDepth 100000 in
theorem kiL_9 : zKI RL 9 yX5_init cX5_init 1 0 := ⟨Or.inl (zG1.at 82 rfl rfl), zG1.at 83 rfl rfl, zG1.at 71 rfl rfl, zG1.at 84 rfl rfl, rfl, by decide +kernel, by decide⟩
set_option maxRecDepth 100000 in
theorem oiX5_1 : zW (.methodLink RX5 1 objectInit) := zW.at 85 rfl rfl
set_option maxRecDepth 100000 in
theorem clX5_7 : zW (.classLink RX5 7 "HeadsOfRings$Text") := zW.at 88 rfl rfl
set_option maxRecDepth 100000 in
theorem kiX5_9 : zKI RX5 9 yX4_init cX4_init 1 0 := ⟨Or.inr ⟨"HeadsOfRings", zW.at 90 rfl rfl⟩, zG1.at 91 rfl rfl, zG1.at 72 rfl rfl, zG1.at 92 rfl rfl, rfl, by decide +kernel, by decide⟩
set_option maxRecDepth 100000 in
theorem oiX4_3 : zW (.methodLink RX4 3 objectInit) := zW.at 93 rfl rfl
set_option maxRecDepth 100000 in
theorem fdX4_9 : zFd RX4 9 4 0 := ⟨RX4, TX4, 5, zc4, by decide, rfl, Or.inl (zW.at 94 rfl rfl)⟩
set_option maxRecDepth 100000 in
theorem fpX4_9 : zFp RX4 9 4 0 (.array .int) true := ⟨RX4, TX4, 5, zc4, by decide, rfl, Or.inl ⟨rfl, rfl, zW.at 94 rfl rfl⟩, rfl, by decide +kernel⟩
set_option maxRecDepth 100000 in
theorem fdX4_15 : zFd RX4 15 4 1 := ⟨RX4, TX4, 5, zc4, by decide, rfl, Or.inl (zW.at 95 rfl rfl)⟩
set_option maxRecDepth 100000 in
theorem fpX4_15 : zFp RX4 15 4 1 (.int) false := ⟨RX4, TX4, 5, zc4, by decide, rfl, Or.inr ⟨rfl, Or.inl (zW.at 95 rfl rfl)⟩, rfl, by decide +kernel⟩
set_option maxRecDepth 100000 in
theorem fdX5_61 : zFd RX5 61 4 1 := ⟨RX4, TX4, 5, zc4, by decide, rfl, Or.inr ⟨"HeadsOfRings", zW.at 96 rfl rfl⟩⟩
set_option maxRecDepth 100000 in
theorem fpX5_61 : zFp RX5 61 4 1 (.int) false := ⟨RX4, TX4, 5, zc4, by decide, rfl, Or.inr ⟨rfl, Or.inr ⟨"HeadsOfRings", zW.at 96 rfl rfl⟩⟩, rfl, by decide +kernel⟩
set_option maxRecDepth 100000 in
theorem fdX4_19 : zFd RX4 19 4 2 := ⟨RX4, TX4, 5, zc4, by decide, rfl, Or.inl (zW.at 97 rfl rfl)⟩
set_option maxRecDepth 100000 in
theorem fpX4_19 : zFp RX4 19 4 2 (.int) false := ⟨RX4, TX4, 5, zc4, by decide, rfl, Or.inr ⟨rfl, Or.inl (zW.at 97 rfl rfl)⟩, rfl, by decide +kernel⟩
set_option maxRecDepth 100000 in
theorem fdX5_83 : zFd RX5 83 4 2 := ⟨RX4, TX4, 5, zc4, by decide, rfl, Or.inr ⟨"HeadsOfRings", zW.at 98 rfl rfl⟩⟩
set_option maxRecDepth 100000 in
theorem fpX5_83 : zFp RX5 83 4 2 (.int) false := ⟨RX4, TX4, 5, zc4, by decide, rfl, Or.inr ⟨rfl, Or.inr ⟨"HeadsOfRings", zW.at 98 rfl rfl⟩⟩, rfl, by decide +kernel⟩
set_option maxRecDepth 100000 in
theorem fdX4_22 : zFd RX4 22 4 3 := ⟨RX4, TX4, 5, zc4, by decide, rfl, Or.inl (zW.at 99 rfl rfl)⟩
set_option maxRecDepth 100000 in
theorem fpX4_22 : zFp RX4 22 4 3 (.int) false := ⟨RX4, TX4, 5, zc4, by decide, rfl, Or.inr ⟨rfl, Or.inl (zW.at 99 rfl rfl)⟩, rfl, by decide +kernel⟩
set_option maxRecDepth 100000 in
theorem fdX4_25 : zFd RX4 25 4 4 := ⟨RX4, TX4, 5, zc4, by decide, rfl, Or.inl (zW.at 100 rfl rfl)⟩
set_option maxRecDepth 100000 in
theorem fpX4_25 : zFp RX4 25 4 4 (.int) false := ⟨RX4, TX4, 5, zc4, by decide, rfl, Or.inr ⟨rfl, Or.inl (zW.at 100 rfl rfl)⟩, rfl, by decide +kernel⟩
set_option maxRecDepth 100000 in
theorem clX5_16 : zW (.classLink RX5 16 "HeadsOfRings$Ring") := zW.at 113 rfl rfl
set_option maxRecDepth 100000 in
theorem kiX5_18 : zKI RX5 18 yX3_init cX3_init 1 0 := ⟨Or.inr ⟨"HeadsOfRings", zW.at 115 rfl rfl⟩, zG1.at 116 rfl rfl, zG1.at 73 rfl rfl, zG1.at 117 rfl rfl, rfl, by decide +kernel, by decide⟩
set_option maxRecDepth 100000 in
theorem oiX3_3 : zW (.methodLink RX3 3 objectInit) := zW.at 118 rfl rfl
set_option maxRecDepth 100000 in
theorem fdX3_9 : zFd RX3 9 3 0 := ⟨RX3, TX3, 3, zc3, by decide, rfl, Or.inl (zW.at 119 rfl rfl)⟩
set_option maxRecDepth 100000 in
theorem fpX3_9 : zFp RX3 9 3 0 (.int) false := ⟨RX3, TX3, 3, zc3, by decide, rfl, Or.inr ⟨rfl, Or.inl (zW.at 119 rfl rfl)⟩, rfl, by decide +kernel⟩
set_option maxRecDepth 100000 in
theorem fdX4_28 : zFd RX4 28 3 0 := ⟨RX3, TX3, 3, zc3, by decide, rfl, Or.inr ⟨"HeadsOfRings", zW.at 120 rfl rfl⟩⟩
set_option maxRecDepth 100000 in
theorem fpX4_28 : zFp RX4 28 3 0 (.int) false := ⟨RX3, TX3, 3, zc3, by decide, rfl, Or.inr ⟨rfl, Or.inr ⟨"HeadsOfRings", zW.at 120 rfl rfl⟩⟩, rfl, by decide +kernel⟩
set_option maxRecDepth 100000 in
theorem fdX5_80 : zFd RX5 80 3 0 := ⟨RX3, TX3, 3, zc3, by decide, rfl, Or.inr ⟨"HeadsOfRings", zW.at 121 rfl rfl⟩⟩
set_option maxRecDepth 100000 in
theorem fpX5_80 : zFp RX5 80 3 0 (.int) false := ⟨RX3, TX3, 3, zc3, by decide, rfl, Or.inr ⟨rfl, Or.inr ⟨"HeadsOfRings", zW.at 121 rfl rfl⟩⟩, rfl, by decide +kernel⟩
set_option maxRecDepth 100000 in
theorem fdX0_64 : zFd RX0 64 3 0 := ⟨RX3, TX3, 3, zc3, by decide, rfl, Or.inr ⟨"HeadsOfRings", zW.at 122 rfl rfl⟩⟩
set_option maxRecDepth 100000 in
theorem fpX0_64 : zFp RX0 64 3 0 (.int) false := ⟨RX3, TX3, 3, zc3, by decide, rfl, Or.inr ⟨rfl, Or.inr ⟨"HeadsOfRings", zW.at 122 rfl rfl⟩⟩, rfl, by decide +kernel⟩
set_option maxRecDepth 100000 in
theorem fdX3_15 : zFd RX3 15 3 1 := ⟨RX3, TX3, 3, zc3, by decide, rfl, Or.inl (zW.at 123 rfl rfl)⟩
set_option maxRecDepth 100000 in
theorem fpX3_15 : zFp RX3 15 3 1 (.array .int) true := ⟨RX3, TX3, 3, zc3, by decide, rfl, Or.inl ⟨rfl, rfl, zW.at 123 rfl rfl⟩, rfl, by decide +kernel⟩
set_option maxRecDepth 100000 in
theorem fdX3_19 : zFd RX3 19 3 2 := ⟨RX3, TX3, 3, zc3, by decide, rfl, Or.inl (zW.at 124 rfl rfl)⟩
set_option maxRecDepth 100000 in
theorem fpX3_19 : zFp RX3 19 3 2 (.array .int) true := ⟨RX3, TX3, 3, zc3, by decide, rfl, Or.inl ⟨rfl, rfl, zW.at 124 rfl rfl⟩, rfl, by decide +kernel⟩
set_option maxRecDepth 100000 in
theorem clX5_26 : zW (.classLink RX5 26 "HeadsOfRings$Election") := zW.at 132 rfl rfl
set_option maxRecDepth 100000 in
theorem kiX5_28 : zKI RX5 28 yX0_init cX0_init 2 1 := ⟨Or.inl (zG1.at 134 rfl rfl), zG1.at 135 rfl rfl, zG1.at 74 rfl rfl, zG1.at 136 rfl rfl, rfl, by decide +kernel, by decide⟩
set_option maxRecDepth 100000 in
theorem oiX0_3 : zW (.methodLink RX0 3 objectInit) := zW.at 137 rfl rfl
set_option maxRecDepth 100000 in
theorem fdX0_34 : zFd RX0 34 0 0 := ⟨RX0, TX0, 8, zc0, by decide, rfl, Or.inl (zW.at 138 rfl rfl)⟩
set_option maxRecDepth 100000 in
theorem fpX0_34 : zFp RX0 34 0 0 (.object "HeadsOfRings$Ring") true := ⟨RX0, TX0, 8, zc0, by decide, rfl, Or.inl ⟨rfl, rfl, zW.at 138 rfl rfl⟩, rfl, by decide +kernel⟩
set_option maxRecDepth 100000 in
theorem fdX0_9 : zFd RX0 9 0 1 := ⟨RX0, TX0, 8, zc0, by decide, rfl, Or.inl (zW.at 139 rfl rfl)⟩
set_option maxRecDepth 100000 in
theorem fpX0_9 : zFp RX0 9 0 1 (.int) false := ⟨RX0, TX0, 8, zc0, by decide, rfl, Or.inr ⟨rfl, Or.inl (zW.at 139 rfl rfl)⟩, rfl, by decide +kernel⟩
set_option maxRecDepth 100000 in
theorem fdX5_199 : zFd RX5 199 0 1 := ⟨RX0, TX0, 8, zc0, by decide, rfl, Or.inr ⟨"HeadsOfRings", zW.at 140 rfl rfl⟩⟩
set_option maxRecDepth 100000 in
theorem fpX5_199 : zFp RX5 199 0 1 (.int) false := ⟨RX0, TX0, 8, zc0, by decide, rfl, Or.inr ⟨rfl, Or.inr ⟨"HeadsOfRings", zW.at 140 rfl rfl⟩⟩, rfl, by decide +kernel⟩
set_option maxRecDepth 100000 in
theorem fdX0_15 : zFd RX0 15 0 2 := ⟨RX0, TX0, 8, zc0, by decide, rfl, Or.inl (zW.at 141 rfl rfl)⟩
set_option maxRecDepth 100000 in
theorem fpX0_15 : zFp RX0 15 0 2 (.int) false := ⟨RX0, TX0, 8, zc0, by decide, rfl, Or.inr ⟨rfl, Or.inl (zW.at 141 rfl rfl)⟩, rfl, by decide +kernel⟩
set_option maxRecDepth 100000 in
theorem fdX0_18 : zFd RX0 18 0 3 := ⟨RX0, TX0, 8, zc0, by decide, rfl, Or.inl (zW.at 142 rfl rfl)⟩
set_option maxRecDepth 100000 in
theorem fpX0_18 : zFp RX0 18 0 3 (.array .int) true := ⟨RX0, TX0, 8, zc0, by decide, rfl, Or.inl ⟨rfl, rfl, zW.at 142 rfl rfl⟩, rfl, by decide +kernel⟩
set_option maxRecDepth 100000 in
theorem fdX0_22 : zFd RX0 22 0 4 := ⟨RX0, TX0, 8, zc0, by decide, rfl, Or.inl (zW.at 143 rfl rfl)⟩
set_option maxRecDepth 100000 in
theorem fpX0_22 : zFp RX0 22 0 4 (.array .int) true := ⟨RX0, TX0, 8, zc0, by decide, rfl, Or.inl ⟨rfl, rfl, zW.at 143 rfl rfl⟩, rfl, by decide +kernel⟩
set_option maxRecDepth 100000 in
theorem fdX0_25 : zFd RX0 25 0 5 := ⟨RX0, TX0, 8, zc0, by decide, rfl, Or.inl (zW.at 144 rfl rfl)⟩
set_option maxRecDepth 100000 in
theorem fpX0_25 : zFp RX0 25 0 5 (.int) false := ⟨RX0, TX0, 8, zc0, by decide, rfl, Or.inr ⟨rfl, Or.inl (zW.at 144 rfl rfl)⟩, rfl, by decide +kernel⟩
set_option maxRecDepth 100000 in
theorem fdX1_40 : zFd RX1 40 0 5 := ⟨RX0, TX0, 8, zc0, by decide, rfl, Or.inr ⟨"HeadsOfRings", zW.at 145 rfl rfl⟩⟩
set_option maxRecDepth 100000 in
theorem fpX1_40 : zFp RX1 40 0 5 (.int) false := ⟨RX0, TX0, 8, zc0, by decide, rfl, Or.inr ⟨rfl, Or.inr ⟨"HeadsOfRings", zW.at 145 rfl rfl⟩⟩, rfl, by decide +kernel⟩
set_option maxRecDepth 100000 in
theorem fdX5_124 : zFd RX5 124 0 5 := ⟨RX0, TX0, 8, zc0, by decide, rfl, Or.inr ⟨"HeadsOfRings", zW.at 146 rfl rfl⟩⟩
set_option maxRecDepth 100000 in
theorem fpX5_124 : zFp RX5 124 0 5 (.int) false := ⟨RX0, TX0, 8, zc0, by decide, rfl, Or.inr ⟨rfl, Or.inr ⟨"HeadsOfRings", zW.at 146 rfl rfl⟩⟩, rfl, by decide +kernel⟩
set_option maxRecDepth 100000 in
theorem fdX0_28 : zFd RX0 28 0 6 := ⟨RX0, TX0, 8, zc0, by decide, rfl, Or.inl (zW.at 147 rfl rfl)⟩
set_option maxRecDepth 100000 in
theorem fpX0_28 : zFp RX0 28 0 6 (.array .int) true := ⟨RX0, TX0, 8, zc0, by decide, rfl, Or.inl ⟨rfl, rfl, zW.at 147 rfl rfl⟩, rfl, by decide +kernel⟩
set_option maxRecDepth 100000 in
theorem fdX0_31 : zFd RX0 31 0 7 := ⟨RX0, TX0, 8, zc0, by decide, rfl, Or.inl (zW.at 148 rfl rfl)⟩
set_option maxRecDepth 100000 in
theorem fpX0_31 : zFp RX0 31 0 7 (.array .int) true := ⟨RX0, TX0, 8, zc0, by decide, rfl, Or.inl ⟨rfl, rfl, zW.at 148 rfl rfl⟩, rfl, by decide +kernel⟩
set_option maxRecDepth 100000 in
theorem clX5_38 : zW (.classLink RX5 38 "HeadsOfRings$History") := zW.at 166 rfl rfl
set_option maxRecDepth 100000 in
theorem kiX5_40 : zKI RX5 40 yX2_init cX2_init 3 1 := ⟨Or.inl (zG1.at 168 rfl rfl), zG1.at 169 rfl rfl, zG1.at 75 rfl rfl, zG1.at 170 rfl rfl, rfl, by decide +kernel, by decide⟩
set_option maxRecDepth 100000 in
theorem oiX2_3 : zW (.methodLink RX2 3 objectInit) := zW.at 171 rfl rfl
set_option maxRecDepth 100000 in
theorem clX2_9 : zW (.classLink RX2 9 "HeadsOfRings$Election") := zW.at 172 rfl rfl
set_option maxRecDepth 100000 in
theorem kiX2_24 : zKI RX2 24 yX0_init cX0_init 2 1 := ⟨Or.inl (zG1.at 174 rfl rfl), zG1.at 135 rfl rfl, zG1.at 74 rfl rfl, zG1.at 136 rfl rfl, rfl, by decide +kernel, by decide⟩
set_option maxRecDepth 100000 in
theorem fdX2_11 : zFd RX2 11 2 0 := ⟨RX2, TX2, 3, zc2, by decide, rfl, Or.inl (zW.at 175 rfl rfl)⟩
set_option maxRecDepth 100000 in
theorem fpX2_11 : zFp RX2 11 2 0 (.array (.object "HeadsOfRings$Election")) true := ⟨RX2, TX2, 3, zc2, by decide, rfl, Or.inl ⟨rfl, rfl, zW.at 175 rfl rfl⟩, rfl, by decide +kernel⟩
set_option maxRecDepth 100000 in
theorem fdX2_17 : zFd RX2 17 2 1 := ⟨RX2, TX2, 3, zc2, by decide, rfl, Or.inl (zW.at 176 rfl rfl)⟩
set_option maxRecDepth 100000 in
theorem fpX2_17 : zFp RX2 17 2 1 (.int) false := ⟨RX2, TX2, 3, zc2, by decide, rfl, Or.inr ⟨rfl, Or.inl (zW.at 176 rfl rfl)⟩, rfl, by decide +kernel⟩
set_option maxRecDepth 100000 in
theorem fdX2_21 : zFd RX2 21 2 2 := ⟨RX2, TX2, 3, zc2, by decide, rfl, Or.inl (zW.at 177 rfl rfl)⟩
set_option maxRecDepth 100000 in
theorem fpX2_21 : zFp RX2 21 2 2 (.int) false := ⟨RX2, TX2, 3, zc2, by decide, rfl, Or.inr ⟨rfl, Or.inl (zW.at 177 rfl rfl)⟩, rfl, by decide +kernel⟩
set_option maxRecDepth 100000 in
theorem fdX5_135 : zFd RX5 135 2 2 := ⟨RX2, TX2, 3, zc2, by decide, rfl, Or.inr ⟨"HeadsOfRings", zW.at 178 rfl rfl⟩⟩
set_option maxRecDepth 100000 in
theorem fpX5_135 : zFp RX5 135 2 2 (.int) false := ⟨RX2, TX2, 3, zc2, by decide, rfl, Or.inr ⟨rfl, Or.inr ⟨"HeadsOfRings", zW.at 178 rfl rfl⟩⟩, rfl, by decide +kernel⟩
set_option maxRecDepth 100000 in
theorem clX5_45 : zW (.classLink RX5 45 "HeadsOfRings$Foresight") := zW.at 186 rfl rfl
set_option maxRecDepth 100000 in
theorem kiX5_47 : zKI RX5 47 yX1_init cX1_init 3 1 := ⟨Or.inl (zG1.at 188 rfl rfl), zG1.at 189 rfl rfl, zG1.at 76 rfl rfl, zG1.at 190 rfl rfl, rfl, by decide +kernel, by decide⟩
set_option maxRecDepth 100000 in
theorem oiX1_3 : zW (.methodLink RX1 3 objectInit) := zW.at 191 rfl rfl
set_option maxRecDepth 100000 in
theorem clX1_9 : zW (.classLink RX1 9 "HeadsOfRings$Election") := zW.at 192 rfl rfl
set_option maxRecDepth 100000 in
theorem kiX1_33 : zKI RX1 33 yX0_init cX0_init 2 1 := ⟨Or.inl (zG1.at 193 rfl rfl), zG1.at 135 rfl rfl, zG1.at 74 rfl rfl, zG1.at 136 rfl rfl, rfl, by decide +kernel, by decide⟩
set_option maxRecDepth 100000 in
theorem fdX1_11 : zFd RX1 11 1 0 := ⟨RX1, TX1, 6, zc1, by decide, rfl, Or.inl (zW.at 194 rfl rfl)⟩
set_option maxRecDepth 100000 in
theorem fpX1_11 : zFp RX1 11 1 0 (.array (.object "HeadsOfRings$Election")) true := ⟨RX1, TX1, 6, zc1, by decide, rfl, Or.inl ⟨rfl, rfl, zW.at 194 rfl rfl⟩, rfl, by decide +kernel⟩
set_option maxRecDepth 100000 in
theorem fdX1_17 : zFd RX1 17 1 1 := ⟨RX1, TX1, 6, zc1, by decide, rfl, Or.inl (zW.at 195 rfl rfl)⟩
set_option maxRecDepth 100000 in
theorem fpX1_17 : zFp RX1 17 1 1 (.int) false := ⟨RX1, TX1, 6, zc1, by decide, rfl, Or.inr ⟨rfl, Or.inl (zW.at 195 rfl rfl)⟩, rfl, by decide +kernel⟩
set_option maxRecDepth 100000 in
theorem fdX1_21 : zFd RX1 21 1 2 := ⟨RX1, TX1, 6, zc1, by decide, rfl, Or.inl (zW.at 196 rfl rfl)⟩
set_option maxRecDepth 100000 in
theorem fpX1_21 : zFp RX1 21 1 2 (.int) false := ⟨RX1, TX1, 6, zc1, by decide, rfl, Or.inr ⟨rfl, Or.inl (zW.at 196 rfl rfl)⟩, rfl, by decide +kernel⟩
set_option maxRecDepth 100000 in
theorem fdX5_167 : zFd RX5 167 1 2 := ⟨RX1, TX1, 6, zc1, by decide, rfl, Or.inr ⟨"HeadsOfRings", zW.at 197 rfl rfl⟩⟩
set_option maxRecDepth 100000 in
theorem fpX5_167 : zFp RX5 167 1 2 (.int) false := ⟨RX1, TX1, 6, zc1, by decide, rfl, Or.inr ⟨rfl, Or.inr ⟨"HeadsOfRings", zW.at 197 rfl rfl⟩⟩, rfl, by decide +kernel⟩
set_option maxRecDepth 100000 in
theorem fdX1_24 : zFd RX1 24 1 3 := ⟨RX1, TX1, 6, zc1, by decide, rfl, Or.inl (zW.at 198 rfl rfl)⟩
set_option maxRecDepth 100000 in
theorem fpX1_24 : zFp RX1 24 1 3 (.int) false := ⟨RX1, TX1, 6, zc1, by decide, rfl, Or.inr ⟨rfl, Or.inl (zW.at 198 rfl rfl)⟩, rfl, by decide +kernel⟩
set_option maxRecDepth 100000 in
theorem fdX5_170 : zFd RX5 170 1 3 := ⟨RX1, TX1, 6, zc1, by decide, rfl, Or.inr ⟨"HeadsOfRings", zW.at 199 rfl rfl⟩⟩
set_option maxRecDepth 100000 in
theorem fpX5_170 : zFp RX5 170 1 3 (.int) false := ⟨RX1, TX1, 6, zc1, by decide, rfl, Or.inr ⟨rfl, Or.inr ⟨"HeadsOfRings", zW.at 199 rfl rfl⟩⟩, rfl, by decide +kernel⟩
set_option maxRecDepth 100000 in
theorem fdX1_27 : zFd RX1 27 1 4 := ⟨RX1, TX1, 6, zc1, by decide, rfl, Or.inl (zW.at 200 rfl rfl)⟩
set_option maxRecDepth 100000 in
theorem fpX1_27 : zFp RX1 27 1 4 (.int) false := ⟨RX1, TX1, 6, zc1, by decide, rfl, Or.inr ⟨rfl, Or.inl (zW.at 200 rfl rfl)⟩, rfl, by decide +kernel⟩
set_option maxRecDepth 100000 in
theorem fdX5_173 : zFd RX5 173 1 4 := ⟨RX1, TX1, 6, zc1, by decide, rfl, Or.inr ⟨"HeadsOfRings", zW.at 201 rfl rfl⟩⟩
set_option maxRecDepth 100000 in
theorem fpX5_173 : zFp RX5 173 1 4 (.int) false := ⟨RX1, TX1, 6, zc1, by decide, rfl, Or.inr ⟨rfl, Or.inr ⟨"HeadsOfRings", zW.at 201 rfl rfl⟩⟩, rfl, by decide +kernel⟩
set_option maxRecDepth 100000 in
theorem fdX1_30 : zFd RX1 30 1 5 := ⟨RX1, TX1, 6, zc1, by decide, rfl, Or.inl (zW.at 202 rfl rfl)⟩
set_option maxRecDepth 100000 in
theorem fpX1_30 : zFp RX1 30 1 5 (.int) false := ⟨RX1, TX1, 6, zc1, by decide, rfl, Or.inr ⟨rfl, Or.inl (zW.at 202 rfl rfl)⟩, rfl, by decide +kernel⟩
set_option maxRecDepth 100000 in
theorem fdX5_176 : zFd RX5 176 1 5 := ⟨RX1, TX1, 6, zc1, by decide, rfl, Or.inr ⟨"HeadsOfRings", zW.at 203 rfl rfl⟩⟩
set_option maxRecDepth 100000 in
theorem fpX5_176 : zFp RX5 176 1 5 (.int) false := ⟨RX1, TX1, 6, zc1, by decide, rfl, Or.inr ⟨rfl, Or.inr ⟨"HeadsOfRings", zW.at 203 rfl rfl⟩⟩, rfl, by decide +kernel⟩
set_option maxRecDepth 100000 in
theorem fdX5_10 : zFd RX5 10 5 0 := ⟨RX5, TX5, 7, zc5, by decide, rfl, Or.inl (zW.at 217 rfl rfl)⟩
set_option maxRecDepth 100000 in
theorem fpX5_10 : zFp RX5 10 5 0 (.object "HeadsOfRings$Text") true := ⟨RX5, TX5, 7, zc5, by decide, rfl, Or.inl ⟨rfl, rfl, zW.at 217 rfl rfl⟩, rfl, by decide +kernel⟩
set_option maxRecDepth 100000 in
theorem fdX5_19 : zFd RX5 19 5 1 := ⟨RX5, TX5, 7, zc5, by decide, rfl, Or.inl (zW.at 218 rfl rfl)⟩
set_option maxRecDepth 100000 in
theorem fpX5_19 : zFp RX5 19 5 1 (.object "HeadsOfRings$Ring") true := ⟨RX5, TX5, 7, zc5, by decide, rfl, Or.inl ⟨rfl, rfl, zW.at 218 rfl rfl⟩, rfl, by decide +kernel⟩
set_option maxRecDepth 100000 in
theorem fdX5_23 : zFd RX5 23 5 2 := ⟨RX5, TX5, 7, zc5, by decide, rfl, Or.inl (zW.at 219 rfl rfl)⟩
set_option maxRecDepth 100000 in
theorem fpX5_23 : zFp RX5 23 5 2 (.object "HeadsOfRings$Ring") true := ⟨RX5, TX5, 7, zc5, by decide, rfl, Or.inl ⟨rfl, rfl, zW.at 219 rfl rfl⟩, rfl, by decide +kernel⟩
set_option maxRecDepth 100000 in
theorem fdX5_31 : zFd RX5 31 5 3 := ⟨RX5, TX5, 7, zc5, by decide, rfl, Or.inl (zW.at 220 rfl rfl)⟩
set_option maxRecDepth 100000 in
theorem fpX5_31 : zFp RX5 31 5 3 (.object "HeadsOfRings$Election") true := ⟨RX5, TX5, 7, zc5, by decide, rfl, Or.inl ⟨rfl, rfl, zW.at 220 rfl rfl⟩, rfl, by decide +kernel⟩
set_option maxRecDepth 100000 in
theorem fdX5_35 : zFd RX5 35 5 4 := ⟨RX5, TX5, 7, zc5, by decide, rfl, Or.inl (zW.at 221 rfl rfl)⟩
set_option maxRecDepth 100000 in
theorem fpX5_35 : zFp RX5 35 5 4 (.object "HeadsOfRings$Election") true := ⟨RX5, TX5, 7, zc5, by decide, rfl, Or.inl ⟨rfl, rfl, zW.at 221 rfl rfl⟩, rfl, by decide +kernel⟩
set_option maxRecDepth 100000 in
theorem fdX5_41 : zFd RX5 41 5 5 := ⟨RX5, TX5, 7, zc5, by decide, rfl, Or.inl (zW.at 222 rfl rfl)⟩
set_option maxRecDepth 100000 in
theorem fpX5_41 : zFp RX5 41 5 5 (.object "HeadsOfRings$History") true := ⟨RX5, TX5, 7, zc5, by decide, rfl, Or.inl ⟨rfl, rfl, zW.at 222 rfl rfl⟩, rfl, by decide +kernel⟩
set_option maxRecDepth 100000 in
theorem fdX5_48 : zFd RX5 48 5 6 := ⟨RX5, TX5, 7, zc5, by decide, rfl, Or.inl (zW.at 223 rfl rfl)⟩
set_option maxRecDepth 100000 in
theorem fpX5_48 : zFp RX5 48 5 6 (.object "HeadsOfRings$Foresight") true := ⟨RX5, TX5, 7, zc5, by decide, rfl, Or.inl ⟨rfl, rfl, zW.at 223 rfl rfl⟩, rfl, by decide +kernel⟩
set_option maxRecDepth 100000 in
theorem kvL_13 : zKV RL 13 RX5 yX5_write cX5_write 2 (some .int) 1 := ⟨zG1.at 239 rfl rfl, zG1.at 240 rfl rfl, zG1.at 241 rfl rfl, zG1.at 71 rfl rfl, zG1.at 242 rfl rfl, by decide +kernel, by decide⟩
set_option maxRecDepth 100000 in
theorem ksX5_52 : zKS RX5 52 yX5_within cX5_within 3 (some .boolean) 3 := ⟨Or.inl (zG1.at 243 rfl rfl), zG1.at 244 rfl rfl, zG1.at 71 rfl rfl, zG1.at 245 rfl rfl, by decide +kernel, by decide⟩
set_option maxRecDepth 100000 in
theorem knX5_56 : zW (.constant RX5 56 (-1000002)) := zW.at 246 rfl rfl
set_option maxRecDepth 100000 in
theorem kvX5_57 : zKV RX5 57 RX4 yX4_append cX4_append 2 (some .boolean) 1 := ⟨zG1.at 247 rfl rfl, zG1.at 248 rfl rfl, zG1.at 249 rfl rfl, zG1.at 72 rfl rfl, zG1.at 250 rfl rfl, by decide +kernel, by decide⟩
set_option maxRecDepth 100000 in
theorem knX5_65 : zW (.constant RX5 65 (-1000004)) := zW.at 251 rfl rfl
set_option maxRecDepth 100000 in
theorem kvL_18 : zKV RL 18 RX5 yX5_ring cX5_ring 2 (some .int) 0 := ⟨zG1.at 252 rfl rfl, zG1.at 253 rfl rfl, zG1.at 254 rfl rfl, zG1.at 71 rfl rfl, zG1.at 255 rfl rfl, by decide +kernel, by decide⟩
set_option maxRecDepth 100000 in
theorem kvX5_66 : zKV RX5 66 RX4 yX4_readInto cX4_readInto 5 (some .int) 1 := ⟨zG1.at 256 rfl rfl, zG1.at 257 rfl rfl, zG1.at 258 rfl rfl, zG1.at 72 rfl rfl, zG1.at 259 rfl rfl, by decide +kernel, by decide⟩
set_option maxRecDepth 100000 in
theorem kvX4_33 : zKV RX4 33 RX4 yX4_findToken cX4_findToken 1 none 0 := ⟨zG1.at 260 rfl rfl, zG1.at 262 rfl rfl, zG1.at 0 rfl rfl, zG1.at 72 rfl rfl, zG1.at 263 rfl rfl, by decide +kernel, by decide⟩
set_option maxRecDepth 100000 in
theorem kvX4_44 : zKV RX4 44 RX4 yX4_byteAt cX4_byteAt 2 (some .int) 1 := ⟨zG1.at 264 rfl rfl, zG1.at 266 rfl rfl, zG1.at 1 rfl rfl, zG1.at 72 rfl rfl, zG1.at 267 rfl rfl, by decide +kernel, by decide⟩
set_option maxRecDepth 100000 in
theorem ksX4_48 : zKS RX4 48 yX4_isDigit cX4_isDigit 1 (some .boolean) 1 := ⟨Or.inl (zG1.at 268 rfl rfl), zG1.at 269 rfl rfl, zG1.at 72 rfl rfl, zG1.at 270 rfl rfl, by decide +kernel, by decide⟩
set_option maxRecDepth 100000 in
theorem kvX4_36 : zKV RX4 36 RX4 yX4_faultOfToken cX4_faultOfToken 4 (some .int) 2 := ⟨zG1.at 271 rfl rfl, zG1.at 273 rfl rfl, zG1.at 2 rfl rfl, zG1.at 72 rfl rfl, zG1.at 274 rfl rfl, by decide +kernel, by decide⟩
set_option maxRecDepth 100000 in
theorem kvX4_52 : zKV RX4 52 RX4 yX4_faultOfFigures cX4_faultOfFigures 2 (some .int) 1 := ⟨zG1.at 275 rfl rfl, zG1.at 277 rfl rfl, zG1.at 3 rfl rfl, zG1.at 72 rfl rfl, zG1.at 278 rfl rfl, by decide +kernel, by decide⟩
set_option maxRecDepth 100000 in
theorem kvX4_56 : zKV RX4 56 RX4 yX4_tokenValue cX4_tokenValue 3 (some .int) 0 := ⟨zG1.at 279 rfl rfl, zG1.at 281 rfl rfl, zG1.at 4 rfl rfl, zG1.at 72 rfl rfl, zG1.at 282 rfl rfl, by decide +kernel, by decide⟩
set_option maxRecDepth 100000 in
theorem kvX4_60 : zKV RX4 60 RX3 yX3_hasName cX3_hasName 3 (some .boolean) 1 := ⟨zG1.at 283 rfl rfl, zG1.at 284 rfl rfl, zG1.at 285 rfl rfl, zG1.at 73 rfl rfl, zG1.at 286 rfl rfl, by decide +kernel, by decide⟩
set_option maxRecDepth 100000 in
theorem kvX4_63 : zKV RX4 63 RX3 yX3_isFull cX3_isFull 1 (some .boolean) 0 := ⟨zG1.at 287 rfl rfl, zG1.at 288 rfl rfl, zG1.at 289 rfl rfl, zG1.at 73 rfl rfl, zG1.at 290 rfl rfl, by decide +kernel, by decide⟩
set_option maxRecDepth 100000 in
theorem kvX4_40 : zKV RX4 40 RX4 yX4_takeToken cX4_takeToken 3 none 2 := ⟨zG1.at 291 rfl rfl, zG1.at 293 rfl rfl, zG1.at 5 rfl rfl, zG1.at 72 rfl rfl, zG1.at 294 rfl rfl, by decide +kernel, by decide⟩
set_option maxRecDepth 100000 in
theorem kvX4_67 : zKV RX4 67 RX3 yX3_addName cX3_addName 2 none 1 := ⟨zG1.at 295 rfl rfl, zG1.at 296 rfl rfl, zG1.at 297 rfl rfl, zG1.at 73 rfl rfl, zG1.at 298 rfl rfl, by decide +kernel, by decide⟩
set_option maxRecDepth 100000 in
theorem kvX4_71 : zKV RX4 71 RX3 yX3_setLastSense cX3_setLastSense 2 none 1 := ⟨zG1.at 299 rfl rfl, zG1.at 300 rfl rfl, zG1.at 301 rfl rfl, zG1.at 73 rfl rfl, zG1.at 302 rfl rfl, by decide +kernel, by decide⟩
set_option maxRecDepth 100000 in
theorem kvX5_70 : zKV RX5 70 RX3 yX3_copyFrom cX3_copyFrom 2 none 1 := ⟨zG1.at 303 rfl rfl, zG1.at 304 rfl rfl, zG1.at 305 rfl rfl, zG1.at 73 rfl rfl, zG1.at 306 rfl rfl, by decide +kernel, by decide⟩
set_option maxRecDepth 100000 in
theorem acX3_22 : zW (.methodLink RX3 22 arraycopyName) := zW.at 307 rfl rfl
set_option maxRecDepth 100000 in
theorem kvX5_73 : zKV RX5 73 RX0 yX0_start cX0_start 5 none 3 := ⟨zG1.at 310 rfl rfl, zG1.at 311 rfl rfl, zG1.at 312 rfl rfl, zG1.at 74 rfl rfl, zG1.at 313 rfl rfl, by decide +kernel, by decide⟩
set_option maxRecDepth 100000 in
theorem kvX0_44 : zKV RX0 44 RX0 yX0_setCell cX0_setCell 5 none 3 := ⟨zG1.at 314 rfl rfl, zG1.at 316 rfl rfl, zG1.at 6 rfl rfl, zG1.at 74 rfl rfl, zG1.at 317 rfl rfl, by decide +kernel, by decide⟩
set_option maxRecDepth 100000 in
theorem kvX0_48 : zKV RX0 48 RX3 yX3_senseOf cX3_senseOf 2 (some .int) 1 := ⟨zG1.at 318 rfl rfl, zG1.at 319 rfl rfl, zG1.at 320 rfl rfl, zG1.at 73 rfl rfl, zG1.at 321 rfl rfl, by decide +kernel, by decide⟩
set_option maxRecDepth 100000 in
theorem ksX3_28 : zKS RX3 28 yX5_within cX5_within 3 (some .boolean) 3 := ⟨Or.inr ⟨"HeadsOfRings", zW.at 322 rfl rfl⟩, zG1.at 244 rfl rfl, zG1.at 71 rfl rfl, zG1.at 245 rfl rfl, by decide +kernel, by decide⟩
set_option maxRecDepth 100000 in
theorem knX0_54 : zW (.constantLong RX0 54 (2147483647)) := zW.at 323 rfl rfl
set_option maxRecDepth 100000 in
theorem kvX5_77 : zKV RX5 77 RX2 yX2_forget cX2_forget 1 none 0 := ⟨zG1.at 324 rfl rfl, zG1.at 325 rfl rfl, zG1.at 326 rfl rfl, zG1.at 75 rfl rfl, zG1.at 327 rfl rfl, by decide +kernel, by decide⟩
set_option maxRecDepth 100000 in
theorem kvL_23 : zKV RL 23 RX5 yX5_fault cX5_fault 1 (some .int) 0 := ⟨zG1.at 328 rfl rfl, zG1.at 329 rfl rfl, zG1.at 330 rfl rfl, zG1.at 71 rfl rfl, zG1.at 331 rfl rfl, by decide +kernel, by decide⟩
set_option maxRecDepth 100000 in
theorem kvL_27 : zKV RL 27 RX5 yX5_begin cX5_begin 5 (some .int) 3 := ⟨zG1.at 332 rfl rfl, zG1.at 333 rfl rfl, zG1.at 334 rfl rfl, zG1.at 71 rfl rfl, zG1.at 335 rfl rfl, by decide +kernel, by decide⟩
set_option maxRecDepth 100000 in
theorem knX5_86 : zW (.constant RX5 86 (999999)) := zW.at 336 rfl rfl
set_option maxRecDepth 100000 in
theorem kvX5_87 : zKV RX5 87 RX3 yX3_sensesAgree cX3_sensesAgree 2 (some .boolean) 0 := ⟨zG1.at 337 rfl rfl, zG1.at 338 rfl rfl, zG1.at 339 rfl rfl, zG1.at 73 rfl rfl, zG1.at 340 rfl rfl, by decide +kernel, by decide⟩
set_option maxRecDepth 100000 in
theorem knX5_91 : zW (.constant RX5 91 (-1000003)) := zW.at 341 rfl rfl
set_option maxRecDepth 100000 in
theorem kvL_32 : zKV RL 32 RX5 yX5_wake cX5_wake 3 (some .int) 1 := ⟨zG1.at 342 rfl rfl, zG1.at 343 rfl rfl, zG1.at 344 rfl rfl, zG1.at 71 rfl rfl, zG1.at 345 rfl rfl, by decide +kernel, by decide⟩
set_option maxRecDepth 100000 in
theorem kvX5_92 : zKV RX5 92 RX3 yX3_hasContender cX3_hasContender 2 (some .boolean) 1 := ⟨zG1.at 346 rfl rfl, zG1.at 347 rfl rfl, zG1.at 348 rfl rfl, zG1.at 73 rfl rfl, zG1.at 349 rfl rfl, by decide +kernel, by decide⟩
set_option maxRecDepth 100000 in
theorem knX5_95 : zW (.constant RX5 95 (-1000001)) := zW.at 350 rfl rfl
set_option maxRecDepth 100000 in
theorem kvX5_96 : zKV RX5 96 RX0 yX0_isBegun cX0_isBegun 1 (some .boolean) 0 := ⟨zG1.at 351 rfl rfl, zG1.at 352 rfl rfl, zG1.at 353 rfl rfl, zG1.at 74 rfl rfl, zG1.at 354 rfl rfl, by decide +kernel, by decide⟩
set_option maxRecDepth 100000 in
theorem kvX5_99 : zKV RX5 99 RX0 yX0_cell cX0_cell 4 (some .int) 2 := ⟨zG1.at 355 rfl rfl, zG1.at 356 rfl rfl, zG1.at 357 rfl rfl, zG1.at 74 rfl rfl, zG1.at 358 rfl rfl, by decide +kernel, by decide⟩
set_option maxRecDepth 100000 in
theorem kvX5_103 : zKV RX5 103 RX2 yX2_keep cX2_keep 3 none 1 := ⟨zG1.at 359 rfl rfl, zG1.at 360 rfl rfl, zG1.at 361 rfl rfl, zG1.at 75 rfl rfl, zG1.at 362 rfl rfl, by decide +kernel, by decide⟩
set_option maxRecDepth 100000 in
theorem kvX2_27 : zKV RX2 27 RX2 yX2_keptAt cX2_keptAt 2 (some (.object "HeadsOfRings$Election")) 1 := ⟨zG1.at 363 rfl rfl, zG1.at 365 rfl rfl, zG1.at 7 rfl rfl, zG1.at 75 rfl rfl, zG1.at 366 rfl rfl, by decide +kernel, by decide⟩
set_option maxRecDepth 100000 in
theorem kvX2_31 : zKV RX2 31 RX0 yX0_copyFrom cX0_copyFrom 2 none 1 := ⟨zG1.at 367 rfl rfl, zG1.at 368 rfl rfl, zG1.at 369 rfl rfl, zG1.at 74 rfl rfl, zG1.at 370 rfl rfl, by decide +kernel, by decide⟩
set_option maxRecDepth 100000 in
theorem acX0_38 : zW (.methodLink RX0 38 arraycopyName) := zW.at 371 rfl rfl
set_option maxRecDepth 100000 in
theorem kvX5_107 : zKV RX5 107 RX0 yX0_sentOf cX0_sentOf 2 (some .int) 1 := ⟨zG1.at 372 rfl rfl, zG1.at 373 rfl rfl, zG1.at 374 rfl rfl, zG1.at 74 rfl rfl, zG1.at 375 rfl rfl, by decide +kernel, by decide⟩
set_option maxRecDepth 100000 in
theorem ksX0_56 : zKS RX0 56 yX5_within cX5_within 3 (some .boolean) 3 := ⟨Or.inr ⟨"HeadsOfRings", zW.at 376 rfl rfl⟩, zG1.at 244 rfl rfl, zG1.at 71 rfl rfl, zG1.at 245 rfl rfl, by decide +kernel, by decide⟩
set_option maxRecDepth 100000 in
theorem kvX5_111 : zKV RX5 111 RX0 yX0_rouse cX0_rouse 2 none 1 := ⟨zG1.at 377 rfl rfl, zG1.at 378 rfl rfl, zG1.at 379 rfl rfl, zG1.at 74 rfl rfl, zG1.at 380 rfl rfl, by decide +kernel, by decide⟩
set_option maxRecDepth 100000 in
theorem kvX0_107 : zKV RX0 107 RX3 yX3_nameOf cX3_nameOf 2 (some .int) 1 := ⟨zG1.at 381 rfl rfl, zG1.at 382 rfl rfl, zG1.at 383 rfl rfl, zG1.at 73 rfl rfl, zG1.at 384 rfl rfl, by decide +kernel, by decide⟩
set_option maxRecDepth 100000 in
theorem kvX0_110 : zKV RX0 110 RX0 yX0_sendRight cX0_sendRight 4 none 3 := ⟨zG1.at 385 rfl rfl, zG1.at 387 rfl rfl, zG1.at 8 rfl rfl, zG1.at 74 rfl rfl, zG1.at 388 rfl rfl, by decide +kernel, by decide⟩
set_option maxRecDepth 100000 in
theorem kvX0_67 : zKV RX0 67 RX0 yX0_cell cX0_cell 4 (some .int) 2 := ⟨zG1.at 389 rfl rfl, zG1.at 356 rfl rfl, zG1.at 357 rfl rfl, zG1.at 74 rfl rfl, zG1.at 358 rfl rfl, by decide +kernel, by decide⟩
set_option maxRecDepth 100000 in
theorem ksX0_132 : zKS RX0 132 yX3_lineFrom cX3_lineFrom 2 (some .int) 2 := ⟨Or.inl (zG1.at 390 rfl rfl), zG1.at 391 rfl rfl, zG1.at 73 rfl rfl, zG1.at 392 rfl rfl, by decide +kernel, by decide⟩
set_option maxRecDepth 100000 in
theorem kvX0_135 : zKV RX0 135 RX0 yX0_send cX0_send 8 none 6 := ⟨zG1.at 393 rfl rfl, zG1.at 395 rfl rfl, zG1.at 9 rfl rfl, zG1.at 74 rfl rfl, zG1.at 396 rfl rfl, by decide +kernel, by decide⟩
set_option maxRecDepth 100000 in
theorem kvX0_113 : zKV RX0 113 RX0 yX0_sendProbes cX0_sendProbes 4 none 1 := ⟨zG1.at 397 rfl rfl, zG1.at 399 rfl rfl, zG1.at 10 rfl rfl, zG1.at 74 rfl rfl, zG1.at 400 rfl rfl, by decide +kernel, by decide⟩
set_option maxRecDepth 100000 in
theorem kvX0_117 : zKV RX0 117 RX0 yX0_draw cX0_draw 5 none 1 := ⟨zG1.at 401 rfl rfl, zG1.at 403 rfl rfl, zG1.at 11 rfl rfl, zG1.at 74 rfl rfl, zG1.at 404 rfl rfl, by decide +kernel, by decide⟩
set_option maxRecDepth 100000 in
theorem ksX0_81 : zKS RX0 81 yX5_following cX5_following 1 (some .int) 1 := ⟨Or.inr ⟨"HeadsOfRings", zW.at 405 rfl rfl⟩, zG1.at 406 rfl rfl, zG1.at 71 rfl rfl, zG1.at 407 rfl rfl, by decide +kernel, by decide⟩
set_option maxRecDepth 100000 in
theorem knX5_202 : zW (.constantLong RX5 202 (16807)) := zW.at 408 rfl rfl
set_option maxRecDepth 100000 in
theorem knX5_204 : zW (.constantLong RX5 204 (2147483647)) := zW.at 409 rfl rfl
set_option maxRecDepth 100000 in
theorem kvL_36 : zKV RL 36 RX5 yX5_deliver cX5_deliver 2 (some .int) 1 := ⟨zG1.at 410 rfl rfl, zG1.at 411 rfl rfl, zG1.at 412 rfl rfl, zG1.at 71 rfl rfl, zG1.at 413 rfl rfl, by decide +kernel, by decide⟩
set_option maxRecDepth 100000 in
theorem kvX5_115 : zKV RX5 115 RX3 yX3_hasLink cX3_hasLink 2 (some .boolean) 1 := ⟨zG1.at 414 rfl rfl, zG1.at 415 rfl rfl, zG1.at 416 rfl rfl, zG1.at 73 rfl rfl, zG1.at 417 rfl rfl, by decide +kernel, by decide⟩
set_option maxRecDepth 100000 in
theorem kvX5_118 : zKV RX5 118 RX0 yX0_isBusy cX0_isBusy 2 (some .boolean) 1 := ⟨zG1.at 418 rfl rfl, zG1.at 419 rfl rfl, zG1.at 420 rfl rfl, zG1.at 74 rfl rfl, zG1.at 421 rfl rfl, by decide +kernel, by decide⟩
set_option maxRecDepth 100000 in
theorem kvX0_74 : zKV RX0 74 RX0 yX0_placeOf cX0_placeOf 5 (some .int) 2 := ⟨zG1.at 422 rfl rfl, zG1.at 423 rfl rfl, zG1.at 424 rfl rfl, zG1.at 74 rfl rfl, zG1.at 425 rfl rfl, by decide +kernel, by decide⟩
set_option maxRecDepth 100000 in
theorem kvX0_71 : zKV RX0 71 RX0 yX0_letterCell cX0_letterCell 4 (some .int) 2 := ⟨zG1.at 426 rfl rfl, zG1.at 427 rfl rfl, zG1.at 428 rfl rfl, zG1.at 74 rfl rfl, zG1.at 429 rfl rfl, by decide +kernel, by decide⟩
set_option maxRecDepth 100000 in
theorem kvX5_121 : zKV RX5 121 RX0 yX0_deliverFrom cX0_deliverFrom 5 (some .int) 1 := ⟨zG1.at 430 rfl rfl, zG1.at 431 rfl rfl, zG1.at 432 rfl rfl, zG1.at 74 rfl rfl, zG1.at 433 rfl rfl, by decide +kernel, by decide⟩
set_option maxRecDepth 100000 in
theorem kvX0_120 : zKV RX0 120 RX0 yX0_takeInHand cX0_takeInHand 3 none 1 := ⟨zG1.at 434 rfl rfl, zG1.at 436 rfl rfl, zG1.at 12 rfl rfl, zG1.at 74 rfl rfl, zG1.at 437 rfl rfl, by decide +kernel, by decide⟩
set_option maxRecDepth 100000 in
theorem kvX0_123 : zKV RX0 123 RX3 yX3_receiverOf cX3_receiverOf 3 (some .int) 1 := ⟨zG1.at 438 rfl rfl, zG1.at 439 rfl rfl, zG1.at 440 rfl rfl, zG1.at 73 rfl rfl, zG1.at 441 rfl rfl, by decide +kernel, by decide⟩
set_option maxRecDepth 100000 in
theorem ksX3_32 : zKS RX3 32 yX3_directionOf cX3_directionOf 1 (some .int) 1 := ⟨Or.inl (zG1.at 442 rfl rfl), zG1.at 443 rfl rfl, zG1.at 73 rfl rfl, zG1.at 444 rfl rfl, by decide +kernel, by decide⟩
set_option maxRecDepth 100000 in
theorem kvX0_126 : zKV RX0 126 RX0 yX0_goesOn cX0_goesOn 2 (some .boolean) 1 := ⟨zG1.at 445 rfl rfl, zG1.at 447 rfl rfl, zG1.at 13 rfl rfl, zG1.at 74 rfl rfl, zG1.at 448 rfl rfl, by decide +kernel, by decide⟩
set_option maxRecDepth 100000 in
theorem kvX0_139 : zKV RX0 139 RX0 yX0_getsPast cX0_getsPast 3 (some .boolean) 1 := ⟨zG1.at 449 rfl rfl, zG1.at 451 rfl rfl, zG1.at 14 rfl rfl, zG1.at 74 rfl rfl, zG1.at 452 rfl rfl, by decide +kernel, by decide⟩
set_option maxRecDepth 100000 in
theorem kvX0_157 : zKV RX0 157 RX0 yX0_isRunning cX0_isRunning 2 (some .boolean) 1 := ⟨zG1.at 453 rfl rfl, zG1.at 455 rfl rfl, zG1.at 15 rfl rfl, zG1.at 74 rfl rfl, zG1.at 456 rfl rfl, by decide +kernel, by decide⟩
set_option maxRecDepth 100000 in
theorem kvX0_160 : zKV RX0 160 RX0 yX0_becomeHead cX0_becomeHead 3 none 2 := ⟨zG1.at 457 rfl rfl, zG1.at 459 rfl rfl, zG1.at 16 rfl rfl, zG1.at 74 rfl rfl, zG1.at 460 rfl rfl, by decide +kernel, by decide⟩
set_option maxRecDepth 100000 in
theorem kvX0_142 : zKV RX0 142 RX0 yX0_probeGoesOn cX0_probeGoesOn 3 (some .boolean) 1 := ⟨zG1.at 461 rfl rfl, zG1.at 463 rfl rfl, zG1.at 17 rfl rfl, zG1.at 74 rfl rfl, zG1.at 464 rfl rfl, by decide +kernel, by decide⟩
set_option maxRecDepth 100000 in
theorem ksX0_129 : zKS RX0 129 yX3_directionOf cX3_directionOf 1 (some .int) 1 := ⟨Or.inl (zG1.at 465 rfl rfl), zG1.at 443 rfl rfl, zG1.at 73 rfl rfl, zG1.at 444 rfl rfl, by decide +kernel, by decide⟩
set_option maxRecDepth 100000 in
theorem kvX0_145 : zKV RX0 145 RX0 yX0_replyGoesOn cX0_replyGoesOn 2 (some .boolean) 1 := ⟨zG1.at 466 rfl rfl, zG1.at 468 rfl rfl, zG1.at 18 rfl rfl, zG1.at 74 rfl rfl, zG1.at 469 rfl rfl, by decide +kernel, by decide⟩
set_option maxRecDepth 100000 in
theorem kvX0_148 : zKV RX0 148 RX0 yX0_markGoesOn cX0_markGoesOn 3 (some .boolean) 1 := ⟨zG1.at 470 rfl rfl, zG1.at 472 rfl rfl, zG1.at 19 rfl rfl, zG1.at 74 rfl rfl, zG1.at 473 rfl rfl, by decide +kernel, by decide⟩
set_option maxRecDepth 100000 in
theorem kvX0_164 : zKV RX0 164 RX0 yX0_takeFirst cX0_takeFirst 3 none 1 := ⟨zG1.at 474 rfl rfl, zG1.at 476 rfl rfl, zG1.at 20 rfl rfl, zG1.at 74 rfl rfl, zG1.at 477 rfl rfl, by decide +kernel, by decide⟩
set_option maxRecDepth 100000 in
theorem kvX0_167 : zKV RX0 167 RX0 yX0_takeSecond cX0_takeSecond 3 none 1 := ⟨zG1.at 478 rfl rfl, zG1.at 480 rfl rfl, zG1.at 21 rfl rfl, zG1.at 74 rfl rfl, zG1.at 481 rfl rfl, by decide +kernel, by decide⟩
set_option maxRecDepth 100000 in
theorem kvX0_151 : zKV RX0 151 RX0 yX0_tokenGoesOn cX0_tokenGoesOn 3 (some .boolean) 1 := ⟨zG1.at 482 rfl rfl, zG1.at 484 rfl rfl, zG1.at 22 rfl rfl, zG1.at 74 rfl rfl, zG1.at 485 rfl rfl, by decide +kernel, by decide⟩
set_option maxRecDepth 100000 in
theorem kvX0_170 : zKV RX0 170 RX0 yX0_tokenGetsPast cX0_tokenGetsPast 4 (some .boolean) 1 := ⟨zG1.at 486 rfl rfl, zG1.at 488 rfl rfl, zG1.at 23 rfl rfl, zG1.at 74 rfl rfl, zG1.at 489 rfl rfl, by decide +kernel, by decide⟩
set_option maxRecDepth 100000 in
theorem kvX0_173 : zKV RX0 173 RX0 yX0_tokenComesHome cX0_tokenComesHome 2 (some .boolean) 1 := ⟨zG1.at 490 rfl rfl, zG1.at 492 rfl rfl, zG1.at 24 rfl rfl, zG1.at 74 rfl rfl, zG1.at 493 rfl rfl, by decide +kernel, by decide⟩
set_option maxRecDepth 100000 in
theorem kvX0_154 : zKV RX0 154 RX0 yX0_crownGoesOn cX0_crownGoesOn 2 (some .boolean) 1 := ⟨zG1.at 494 rfl rfl, zG1.at 496 rfl rfl, zG1.at 25 rfl rfl, zG1.at 74 rfl rfl, zG1.at 497 rfl rfl, by decide +kernel, by decide⟩
set_option maxRecDepth 100000 in
theorem kvL_40 : zKV RL 40 RX5 yX5_run cX5_run 4 (some .int) 3 := ⟨zG1.at 498 rfl rfl, zG1.at 499 rfl rfl, zG1.at 500 rfl rfl, zG1.at 71 rfl rfl, zG1.at 501 rfl rfl, by decide +kernel, by decide⟩
set_option maxRecDepth 100000 in
theorem kvX5_127 : zKV RX5 127 RX0 yX0_deliverMany cX0_deliverMany 7 (some .int) 3 := ⟨zG1.at 502 rfl rfl, zG1.at 503 rfl rfl, zG1.at 504 rfl rfl, zG1.at 74 rfl rfl, zG1.at 505 rfl rfl, by decide +kernel, by decide⟩
set_option maxRecDepth 100000 in
theorem kvX0_84 : zKV RX0 84 RX0 yX0_chosenLine cX0_chosenLine 4 (some .int) 3 := ⟨zG1.at 506 rfl rfl, zG1.at 508 rfl rfl, zG1.at 26 rfl rfl, zG1.at 74 rfl rfl, zG1.at 509 rfl rfl, by decide +kernel, by decide⟩
set_option maxRecDepth 100000 in
theorem kvX0_91 : zKV RX0 91 RX0 yX0_leastBusyAfter cX0_leastBusyAfter 3 (some .int) 1 := ⟨zG1.at 510 rfl rfl, zG1.at 512 rfl rfl, zG1.at 27 rfl rfl, zG1.at 74 rfl rfl, zG1.at 513 rfl rfl, by decide +kernel, by decide⟩
set_option maxRecDepth 100000 in
theorem kvX0_77 : zKV RX0 77 RX0 yX0_isBusy cX0_isBusy 2 (some .boolean) 1 := ⟨zG1.at 514 rfl rfl, zG1.at 419 rfl rfl, zG1.at 420 rfl rfl, zG1.at 74 rfl rfl, zG1.at 421 rfl rfl, by decide +kernel, by decide⟩
set_option maxRecDepth 100000 in
theorem kvX0_94 : zKV RX0 94 RX0 yX0_greatestBusy cX0_greatestBusy 2 (some .int) 0 := ⟨zG1.at 515 rfl rfl, zG1.at 517 rfl rfl, zG1.at 28 rfl rfl, zG1.at 74 rfl rfl, zG1.at 518 rfl rfl, by decide +kernel, by decide⟩
set_option maxRecDepth 100000 in
theorem kvX0_98 : zKV RX0 98 RX0 yX0_nextBusyRound cX0_nextBusyRound 3 (some .int) 1 := ⟨zG1.at 519 rfl rfl, zG1.at 521 rfl rfl, zG1.at 29 rfl rfl, zG1.at 74 rfl rfl, zG1.at 522 rfl rfl, by decide +kernel, by decide⟩
set_option maxRecDepth 100000 in
theorem kvX0_101 : zKV RX0 101 RX0 yX0_busyByNumber cX0_busyByNumber 5 (some .int) 1 := ⟨zG1.at 523 rfl rfl, zG1.at 525 rfl rfl, zG1.at 30 rfl rfl, zG1.at 74 rfl rfl, zG1.at 526 rfl rfl, by decide +kernel, by decide⟩
set_option maxRecDepth 100000 in
theorem kvX0_104 : zKV RX0 104 RX0 yX0_busyLinks cX0_busyLinks 3 (some .int) 0 := ⟨zG1.at 527 rfl rfl, zG1.at 528 rfl rfl, zG1.at 529 rfl rfl, zG1.at 74 rfl rfl, zG1.at 530 rfl rfl, by decide +kernel, by decide⟩
set_option maxRecDepth 100000 in
theorem kvX0_88 : zKV RX0 88 RX0 yX0_deliverFrom cX0_deliverFrom 5 (some .int) 1 := ⟨zG1.at 531 rfl rfl, zG1.at 431 rfl rfl, zG1.at 432 rfl rfl, zG1.at 74 rfl rfl, zG1.at 433 rfl rfl, by decide +kernel, by decide⟩
set_option maxRecDepth 100000 in
theorem kvL_44 : zKV RL 44 RX5 yX5_undo cX5_undo 1 (some .int) 0 := ⟨zG1.at 532 rfl rfl, zG1.at 533 rfl rfl, zG1.at 534 rfl rfl, zG1.at 71 rfl rfl, zG1.at 535 rfl rfl, by decide +kernel, by decide⟩
set_option maxRecDepth 100000 in
theorem kvX5_131 : zKV RX5 131 RX2 yX2_giveBack cX2_giveBack 4 (some .boolean) 1 := ⟨zG1.at 536 rfl rfl, zG1.at 537 rfl rfl, zG1.at 538 rfl rfl, zG1.at 75 rfl rfl, zG1.at 539 rfl rfl, by decide +kernel, by decide⟩
set_option maxRecDepth 100000 in
theorem kvL_48 : zKV RL 48 RX5 yX5_contender cX5_contender 3 (some .int) 2 := ⟨zG1.at 540 rfl rfl, zG1.at 541 rfl rfl, zG1.at 542 rfl rfl, zG1.at 71 rfl rfl, zG1.at 543 rfl rfl, by decide +kernel, by decide⟩
set_option maxRecDepth 100000 in
theorem kvX5_136 : zKV RX5 136 RX3 yX3_nameOf cX3_nameOf 2 (some .int) 1 := ⟨zG1.at 544 rfl rfl, zG1.at 382 rfl rfl, zG1.at 383 rfl rfl, zG1.at 73 rfl rfl, zG1.at 384 rfl rfl, by decide +kernel, by decide⟩
set_option maxRecDepth 100000 in
theorem kvL_53 : zKV RL 53 RX5 yX5_link cX5_link 2 (some .int) 1 := ⟨zG1.at 545 rfl rfl, zG1.at 546 rfl rfl, zG1.at 547 rfl rfl, zG1.at 71 rfl rfl, zG1.at 548 rfl rfl, by decide +kernel, by decide⟩
set_option maxRecDepth 100000 in
theorem kvX5_139 : zKV RX5 139 RX0 yX0_lettersOn cX0_lettersOn 4 (some .int) 1 := ⟨zG1.at 549 rfl rfl, zG1.at 550 rfl rfl, zG1.at 551 rfl rfl, zG1.at 74 rfl rfl, zG1.at 552 rfl rfl, by decide +kernel, by decide⟩
set_option maxRecDepth 100000 in
theorem kvL_57 : zKV RL 57 RX5 yX5_letter cX5_letter 5 (some .int) 3 := ⟨zG1.at 553 rfl rfl, zG1.at 554 rfl rfl, zG1.at 555 rfl rfl, zG1.at 71 rfl rfl, zG1.at 556 rfl rfl, by decide +kernel, by decide⟩
set_option maxRecDepth 100000 in
theorem kvX5_142 : zKV RX5 142 RX0 yX0_placeOf cX0_placeOf 5 (some .int) 2 := ⟨zG1.at 557 rfl rfl, zG1.at 423 rfl rfl, zG1.at 424 rfl rfl, zG1.at 74 rfl rfl, zG1.at 425 rfl rfl, by decide +kernel, by decide⟩
set_option maxRecDepth 100000 in
theorem kvX5_145 : zKV RX5 145 RX0 yX0_letterCell cX0_letterCell 4 (some .int) 2 := ⟨zG1.at 558 rfl rfl, zG1.at 427 rfl rfl, zG1.at 428 rfl rfl, zG1.at 74 rfl rfl, zG1.at 429 rfl rfl, by decide +kernel, by decide⟩
set_option maxRecDepth 100000 in
theorem kvL_61 : zKV RL 61 RX5 yX5_sent cX5_sent 2 (some .int) 1 := ⟨zG1.at 559 rfl rfl, zG1.at 560 rfl rfl, zG1.at 561 rfl rfl, zG1.at 71 rfl rfl, zG1.at 562 rfl rfl, by decide +kernel, by decide⟩
set_option maxRecDepth 100000 in
theorem kvL_65 : zKV RL 65 RX5 yX5_would cX5_would 5 (some .int) 3 := ⟨zG1.at 563 rfl rfl, zG1.at 564 rfl rfl, zG1.at 565 rfl rfl, zG1.at 71 rfl rfl, zG1.at 566 rfl rfl, by decide +kernel, by decide⟩
set_option maxRecDepth 100000 in
theorem kvX5_148 : zKV RX5 148 RX0 yX0_copyFrom cX0_copyFrom 2 none 1 := ⟨zG1.at 567 rfl rfl, zG1.at 368 rfl rfl, zG1.at 369 rfl rfl, zG1.at 74 rfl rfl, zG1.at 370 rfl rfl, by decide +kernel, by decide⟩
set_option maxRecDepth 100000 in
theorem kvX5_150 : zKV RX5 150 RX0 yX0_head cX0_head 2 (some .int) 0 := ⟨zG1.at 568 rfl rfl, zG1.at 569 rfl rfl, zG1.at 570 rfl rfl, zG1.at 74 rfl rfl, zG1.at 571 rfl rfl, by decide +kernel, by decide⟩
set_option maxRecDepth 100000 in
theorem kvX5_154 : zKV RX5 154 RX0 yX0_inState cX0_inState 5 (some .int) 1 := ⟨zG1.at 572 rfl rfl, zG1.at 573 rfl rfl, zG1.at 574 rfl rfl, zG1.at 74 rfl rfl, zG1.at 575 rfl rfl, by decide +kernel, by decide⟩
set_option maxRecDepth 100000 in
theorem kvX0_60 : zKV RX0 60 RX0 yX0_isBegun cX0_isBegun 1 (some .boolean) 0 := ⟨zG1.at 576 rfl rfl, zG1.at 352 rfl rfl, zG1.at 353 rfl rfl, zG1.at 74 rfl rfl, zG1.at 354 rfl rfl, by decide +kernel, by decide⟩
set_option maxRecDepth 100000 in
theorem kvL_69 : zKV RL 69 RX5 yX5_foresee cX5_foresee 3 (some .int) 2 := ⟨zG1.at 577 rfl rfl, zG1.at 578 rfl rfl, zG1.at 579 rfl rfl, zG1.at 71 rfl rfl, zG1.at 580 rfl rfl, by decide +kernel, by decide⟩
set_option maxRecDepth 100000 in
theorem kvX5_157 : zKV RX5 157 RX0 yX0_busyLinks cX0_busyLinks 3 (some .int) 0 := ⟨zG1.at 581 rfl rfl, zG1.at 528 rfl rfl, zG1.at 529 rfl rfl, zG1.at 74 rfl rfl, zG1.at 530 rfl rfl, by decide +kernel, by decide⟩
set_option maxRecDepth 100000 in
theorem kvX5_160 : zKV RX5 160 RX1 yX1_reset cX1_reset 2 none 1 := ⟨zG1.at 582 rfl rfl, zG1.at 583 rfl rfl, zG1.at 584 rfl rfl, zG1.at 76 rfl rfl, zG1.at 585 rfl rfl, by decide +kernel, by decide⟩
set_option maxRecDepth 100000 in
theorem kvX1_36 : zKV RX1 36 RX0 yX0_sentOf cX0_sentOf 2 (some .int) 1 := ⟨zG1.at 586 rfl rfl, zG1.at 373 rfl rfl, zG1.at 374 rfl rfl, zG1.at 74 rfl rfl, zG1.at 375 rfl rfl, by decide +kernel, by decide⟩
set_option maxRecDepth 100000 in
theorem kvX5_163 : zKV RX5 163 RX1 yX1_explore cX1_explore 5 none 2 := ⟨zG1.at 587 rfl rfl, zG1.at 588 rfl rfl, zG1.at 589 rfl rfl, zG1.at 76 rfl rfl, zG1.at 590 rfl rfl, by decide +kernel, by decide⟩
set_option maxRecDepth 100000 in
theorem kvX1_43 : zKV RX1 43 RX1 yX1_note cX1_note 3 none 1 := ⟨zG1.at 591 rfl rfl, zG1.at 593 rfl rfl, zG1.at 31 rfl rfl, zG1.at 76 rfl rfl, zG1.at 594 rfl rfl, by decide +kernel, by decide⟩
set_option maxRecDepth 100000 in
theorem mmX1_61 : zW (.methodLink RX1 61 Lib.Math.min.name) := zW.at 595 rfl rfl
set_option maxRecDepth 100000 in
theorem mmX1_67 : zW (.methodLink RX1 67 Lib.Math.max.name) := zW.at 598 rfl rfl
set_option maxRecDepth 100000 in
theorem kvX1_70 : zKV RX1 70 RX0 yX0_head cX0_head 2 (some .int) 0 := ⟨zG1.at 601 rfl rfl, zG1.at 569 rfl rfl, zG1.at 570 rfl rfl, zG1.at 74 rfl rfl, zG1.at 571 rfl rfl, by decide +kernel, by decide⟩
set_option maxRecDepth 100000 in
theorem kvX1_47 : zKV RX1 47 RX0 yX0_isBusy cX0_isBusy 2 (some .boolean) 1 := ⟨zG1.at 602 rfl rfl, zG1.at 419 rfl rfl, zG1.at 420 rfl rfl, zG1.at 74 rfl rfl, zG1.at 421 rfl rfl, by decide +kernel, by decide⟩
set_option maxRecDepth 100000 in
theorem kvX1_51 : zKV RX1 51 RX0 yX0_copyFrom cX0_copyFrom 2 none 1 := ⟨zG1.at 603 rfl rfl, zG1.at 368 rfl rfl, zG1.at 369 rfl rfl, zG1.at 74 rfl rfl, zG1.at 370 rfl rfl, by decide +kernel, by decide⟩
set_option maxRecDepth 100000 in
theorem kvX1_54 : zKV RX1 54 RX0 yX0_deliverFrom cX0_deliverFrom 5 (some .int) 1 := ⟨zG1.at 604 rfl rfl, zG1.at 431 rfl rfl, zG1.at 432 rfl rfl, zG1.at 74 rfl rfl, zG1.at 433 rfl rfl, by decide +kernel, by decide⟩
set_option maxRecDepth 100000 in
theorem kvX1_57 : zKV RX1 57 RX1 yX1_explore cX1_explore 5 none 2 := ⟨zG1.at 605 rfl rfl, zG1.at 588 rfl rfl, zG1.at 589 rfl rfl, zG1.at 76 rfl rfl, zG1.at 590 rfl rfl, by decide +kernel, by decide⟩
set_option maxRecDepth 100000 in
theorem kvL_73 : zKV RL 73 RX5 yX5_sit cX5_sit 3 (some .int) 1 := ⟨zG1.at 606 rfl rfl, zG1.at 607 rfl rfl, zG1.at 608 rfl rfl, zG1.at 71 rfl rfl, zG1.at 609 rfl rfl, by decide +kernel, by decide⟩
set_option maxRecDepth 100000 in
theorem ksX5_179 : zKS RX5 179 yX5_sixtiethsOfMean cX5_sixtiethsOfMean 4 (some .long) 1 := ⟨Or.inl (zG1.at 610 rfl rfl), zG1.at 611 rfl rfl, zG1.at 71 rfl rfl, zG1.at 612 rfl rfl, by decide +kernel, by decide⟩
set_option maxRecDepth 100000 in
theorem knX5_183 : zW (.constantLong RX5 183 (60)) := zW.at 613 rfl rfl
set_option maxRecDepth 100000 in
theorem ksX5_185 : zKS RX5 185 yX5_lowest cX5_lowest 9 (some .long) 3 := ⟨Or.inl (zG1.at 614 rfl rfl), zG1.at 615 rfl rfl, zG1.at 71 rfl rfl, zG1.at 616 rfl rfl, by decide +kernel, by decide⟩
set_option maxRecDepth 100000 in
theorem ksX5_213 : zKS RX5 213 yX5_commonDivisor cX5_commonDivisor 11 (some .long) 2 := ⟨Or.inl (zG1.at 617 rfl rfl), zG1.at 618 rfl rfl, zG1.at 71 rfl rfl, zG1.at 619 rfl rfl, by decide +kernel, by decide⟩
set_option maxRecDepth 100000 in
theorem kvL_77 : zKV RL 77 RX5 yX5_chance cX5_chance 5 (some .long) 4 := ⟨zG1.at 620 rfl rfl, zG1.at 621 rfl rfl, zG1.at 622 rfl rfl, zG1.at 71 rfl rfl, zG1.at 623 rfl rfl, by decide +kernel, by decide⟩
set_option maxRecDepth 100000 in
theorem knX5_189 : zW (.constantLong RX5 189 (-1000002)) := zW.at 624 rfl rfl
set_option maxRecDepth 100000 in
theorem ksX5_191 : zKS RX5 191 yX5_waysToOne cX5_waysToOne 10 (some .long) 3 := ⟨Or.inl (zG1.at 625 rfl rfl), zG1.at 626 rfl rfl, zG1.at 71 rfl rfl, zG1.at 627 rfl rfl, by decide +kernel, by decide⟩
set_option maxRecDepth 100000 in
theorem ksX5_206 : zKS RX5 206 yX5_waysToLeave cX5_waysToLeave 6 (some .long) 3 := ⟨Or.inl (zG1.at 628 rfl rfl), zG1.at 629 rfl rfl, zG1.at 71 rfl rfl, zG1.at 630 rfl rfl, by decide +kernel, by decide⟩
set_option maxRecDepth 100000 in
theorem ksX5_195 : zKS RX5 195 yX5_power cX5_power 6 (some .long) 2 := ⟨Or.inl (zG1.at 631 rfl rfl), zG1.at 632 rfl rfl, zG1.at 71 rfl rfl, zG1.at 633 rfl rfl, by decide +kernel, by decide⟩
set_option maxRecDepth 100000 in
theorem ksX5_209 : zKS RX5 209 yX5_choices cX5_choices 5 (some .long) 2 := ⟨Or.inl (zG1.at 634 rfl rfl), zG1.at 635 rfl rfl, zG1.at 71 rfl rfl, zG1.at 636 rfl rfl, by decide +kernel, by decide⟩
set_option maxRecDepth 100000 in
theorem kvL_82 : zKV RL 82 RX5 yX5_count cX5_count 2 (some .int) 1 := ⟨zG1.at 638 rfl rfl, zG1.at 639 rfl rfl, zG1.at 640 rfl rfl, zG1.at 71 rfl rfl, zG1.at 641 rfl rfl, by decide +kernel, by decide⟩
set_option maxRecDepth 100000 in
theorem clL_10 : zW (.classLink RL 10 "HeadsOfRingsModel") := zW.at 642 rfl rfl
set_option maxRecDepth 100000 in
theorem kiL_12 : zKI RL 12 yX6_init cX6_init 1 0 := ⟨Or.inl (zG1.at 644 rfl rfl), zG1.at 645 rfl rfl, zG1.at 77 rfl rfl, zG1.at 646 rfl rfl, rfl, by decide +kernel, by decide⟩
set_option maxRecDepth 100000 in
theorem oiX6_1 : zW (.methodLink RX6 1 objectInit) := zW.at 647 rfl rfl
set_option maxRecDepth 100000 in
theorem fdX6_41 : zFd RX6 41 6 0 := ⟨RX6, TX6, 31, zc6, by decide, rfl, Or.inl (zW.at 648 rfl rfl)⟩
set_option maxRecDepth 100000 in
theorem fpX6_41 : zFp RX6 41 6 0 (.int) false := ⟨RX6, TX6, 31, zc6, by decide, rfl, Or.inr ⟨rfl, Or.inl (zW.at 648 rfl rfl)⟩, rfl, by decide +kernel⟩
set_option maxRecDepth 100000 in
theorem fdX6_7 : zFd RX6 7 6 1 := ⟨RX6, TX6, 31, zc6, by decide, rfl, Or.inl (zW.at 649 rfl rfl)⟩
set_option maxRecDepth 100000 in
theorem fpX6_7 : zFp RX6 7 6 1 (.array .int) true := ⟨RX6, TX6, 31, zc6, by decide, rfl, Or.inl ⟨rfl, rfl, zW.at 649 rfl rfl⟩, rfl, by decide +kernel⟩
set_option maxRecDepth 100000 in
theorem fdX6_13 : zFd RX6 13 6 2 := ⟨RX6, TX6, 31, zc6, by decide, rfl, Or.inl (zW.at 650 rfl rfl)⟩
set_option maxRecDepth 100000 in
theorem fpX6_13 : zFp RX6 13 6 2 (.array .int) true := ⟨RX6, TX6, 31, zc6, by decide, rfl, Or.inl ⟨rfl, rfl, zW.at 650 rfl rfl⟩, rfl, by decide +kernel⟩
set_option maxRecDepth 100000 in
theorem fdX6_16 : zFd RX6 16 6 3 := ⟨RX6, TX6, 31, zc6, by decide, rfl, Or.inl (zW.at 651 rfl rfl)⟩
set_option maxRecDepth 100000 in
theorem fpX6_16 : zFp RX6 16 6 3 (.array .int) true := ⟨RX6, TX6, 31, zc6, by decide, rfl, Or.inl ⟨rfl, rfl, zW.at 651 rfl rfl⟩, rfl, by decide +kernel⟩
set_option maxRecDepth 100000 in
theorem fdX6_153 : zFd RX6 153 6 4 := ⟨RX6, TX6, 31, zc6, by decide, rfl, Or.inl (zW.at 652 rfl rfl)⟩
set_option maxRecDepth 100000 in
theorem fpX6_153 : zFp RX6 153 6 4 (.int) false := ⟨RX6, TX6, 31, zc6, by decide, rfl, Or.inr ⟨rfl, Or.inl (zW.at 652 rfl rfl)⟩, rfl, by decide +kernel⟩
set_option maxRecDepth 100000 in
theorem fdX6_85 : zFd RX6 85 6 5 := ⟨RX6, TX6, 31, zc6, by decide, rfl, Or.inl (zW.at 653 rfl rfl)⟩
set_option maxRecDepth 100000 in
theorem fpX6_85 : zFp RX6 85 6 5 (.int) false := ⟨RX6, TX6, 31, zc6, by decide, rfl, Or.inr ⟨rfl, Or.inl (zW.at 653 rfl rfl)⟩, rfl, by decide +kernel⟩
set_option maxRecDepth 100000 in
theorem fdX6_88 : zFd RX6 88 6 6 := ⟨RX6, TX6, 31, zc6, by decide, rfl, Or.inl (zW.at 654 rfl rfl)⟩
set_option maxRecDepth 100000 in
theorem fpX6_88 : zFp RX6 88 6 6 (.int) false := ⟨RX6, TX6, 31, zc6, by decide, rfl, Or.inr ⟨rfl, Or.inl (zW.at 654 rfl rfl)⟩, rfl, by decide +kernel⟩
set_option maxRecDepth 100000 in
theorem fdX6_91 : zFd RX6 91 6 7 := ⟨RX6, TX6, 31, zc6, by decide, rfl, Or.inl (zW.at 655 rfl rfl)⟩
set_option maxRecDepth 100000 in
theorem fpX6_91 : zFp RX6 91 6 7 (.int) false := ⟨RX6, TX6, 31, zc6, by decide, rfl, Or.inr ⟨rfl, Or.inl (zW.at 655 rfl rfl)⟩, rfl, by decide +kernel⟩
set_option maxRecDepth 100000 in
theorem fdX6_94 : zFd RX6 94 6 8 := ⟨RX6, TX6, 31, zc6, by decide, rfl, Or.inl (zW.at 656 rfl rfl)⟩
set_option maxRecDepth 100000 in
theorem fpX6_94 : zFp RX6 94 6 8 (.int) false := ⟨RX6, TX6, 31, zc6, by decide, rfl, Or.inr ⟨rfl, Or.inl (zW.at 656 rfl rfl)⟩, rfl, by decide +kernel⟩
set_option maxRecDepth 100000 in
theorem fdX6_97 : zFd RX6 97 6 9 := ⟨RX6, TX6, 31, zc6, by decide, rfl, Or.inl (zW.at 657 rfl rfl)⟩
set_option maxRecDepth 100000 in
theorem fpX6_97 : zFp RX6 97 6 9 (.int) false := ⟨RX6, TX6, 31, zc6, by decide, rfl, Or.inr ⟨rfl, Or.inl (zW.at 657 rfl rfl)⟩, rfl, by decide +kernel⟩
set_option maxRecDepth 100000 in
theorem fdX6_82 : zFd RX6 82 6 10 := ⟨RX6, TX6, 31, zc6, by decide, rfl, Or.inl (zW.at 658 rfl rfl)⟩
set_option maxRecDepth 100000 in
theorem fpX6_82 : zFp RX6 82 6 10 (.int) false := ⟨RX6, TX6, 31, zc6, by decide, rfl, Or.inr ⟨rfl, Or.inl (zW.at 658 rfl rfl)⟩, rfl, by decide +kernel⟩
set_option maxRecDepth 100000 in
theorem fdX6_108 : zFd RX6 108 6 11 := ⟨RX6, TX6, 31, zc6, by decide, rfl, Or.inl (zW.at 659 rfl rfl)⟩
set_option maxRecDepth 100000 in
theorem fpX6_108 : zFp RX6 108 6 11 (.int) false := ⟨RX6, TX6, 31, zc6, by decide, rfl, Or.inr ⟨rfl, Or.inl (zW.at 659 rfl rfl)⟩, rfl, by decide +kernel⟩
set_option maxRecDepth 100000 in
theorem fdX6_143 : zFd RX6 143 6 12 := ⟨RX6, TX6, 31, zc6, by decide, rfl, Or.inl (zW.at 660 rfl rfl)⟩
set_option maxRecDepth 100000 in
theorem fpX6_143 : zFp RX6 143 6 12 (.long) false := ⟨RX6, TX6, 31, zc6, by decide, rfl, Or.inr ⟨rfl, Or.inl (zW.at 660 rfl rfl)⟩, rfl, by decide +kernel⟩
set_option maxRecDepth 100000 in
theorem fdX6_19 : zFd RX6 19 6 13 := ⟨RX6, TX6, 31, zc6, by decide, rfl, Or.inl (zW.at 661 rfl rfl)⟩
set_option maxRecDepth 100000 in
theorem fpX6_19 : zFp RX6 19 6 13 (.array .int) true := ⟨RX6, TX6, 31, zc6, by decide, rfl, Or.inl ⟨rfl, rfl, zW.at 661 rfl rfl⟩, rfl, by decide +kernel⟩
set_option maxRecDepth 100000 in
theorem fdX6_162 : zFd RX6 162 6 14 := ⟨RX6, TX6, 31, zc6, by decide, rfl, Or.inl (zW.at 662 rfl rfl)⟩
set_option maxRecDepth 100000 in
theorem fpX6_162 : zFp RX6 162 6 14 (.int) false := ⟨RX6, TX6, 31, zc6, by decide, rfl, Or.inr ⟨rfl, Or.inl (zW.at 662 rfl rfl)⟩, rfl, by decide +kernel⟩
set_option maxRecDepth 100000 in
theorem fdX6_199 : zFd RX6 199 6 15 := ⟨RX6, TX6, 31, zc6, by decide, rfl, Or.inl (zW.at 663 rfl rfl)⟩
set_option maxRecDepth 100000 in
theorem fpX6_199 : zFp RX6 199 6 15 (.int) false := ⟨RX6, TX6, 31, zc6, by decide, rfl, Or.inr ⟨rfl, Or.inl (zW.at 663 rfl rfl)⟩, rfl, by decide +kernel⟩
set_option maxRecDepth 100000 in
theorem fdX6_170 : zFd RX6 170 6 16 := ⟨RX6, TX6, 31, zc6, by decide, rfl, Or.inl (zW.at 664 rfl rfl)⟩
set_option maxRecDepth 100000 in
theorem fpX6_170 : zFp RX6 170 6 16 (.int) false := ⟨RX6, TX6, 31, zc6, by decide, rfl, Or.inr ⟨rfl, Or.inl (zW.at 664 rfl rfl)⟩, rfl, by decide +kernel⟩
set_option maxRecDepth 100000 in
theorem fdX6_173 : zFd RX6 173 6 17 := ⟨RX6, TX6, 31, zc6, by decide, rfl, Or.inl (zW.at 665 rfl rfl)⟩
set_option maxRecDepth 100000 in
theorem fpX6_173 : zFp RX6 173 6 17 (.int) false := ⟨RX6, TX6, 31, zc6, by decide, rfl, Or.inr ⟨rfl, Or.inl (zW.at 665 rfl rfl)⟩, rfl, by decide +kernel⟩
set_option maxRecDepth 100000 in
theorem fdX6_179 : zFd RX6 179 6 18 := ⟨RX6, TX6, 31, zc6, by decide, rfl, Or.inl (zW.at 666 rfl rfl)⟩
set_option maxRecDepth 100000 in
theorem fpX6_179 : zFp RX6 179 6 18 (.int) false := ⟨RX6, TX6, 31, zc6, by decide, rfl, Or.inr ⟨rfl, Or.inl (zW.at 666 rfl rfl)⟩, rfl, by decide +kernel⟩
set_option maxRecDepth 100000 in
theorem fdX6_182 : zFd RX6 182 6 19 := ⟨RX6, TX6, 31, zc6, by decide, rfl, Or.inl (zW.at 667 rfl rfl)⟩
set_option maxRecDepth 100000 in
theorem fpX6_182 : zFp RX6 182 6 19 (.int) false := ⟨RX6, TX6, 31, zc6, by decide, rfl, Or.inr ⟨rfl, Or.inl (zW.at 667 rfl rfl)⟩, rfl, by decide +kernel⟩
set_option maxRecDepth 100000 in
theorem fdX6_176 : zFd RX6 176 6 20 := ⟨RX6, TX6, 31, zc6, by decide, rfl, Or.inl (zW.at 668 rfl rfl)⟩
set_option maxRecDepth 100000 in
theorem fpX6_176 : zFp RX6 176 6 20 (.int) false := ⟨RX6, TX6, 31, zc6, by decide, rfl, Or.inr ⟨rfl, Or.inl (zW.at 668 rfl rfl)⟩, rfl, by decide +kernel⟩
set_option maxRecDepth 100000 in
theorem fdX6_22 : zFd RX6 22 6 21 := ⟨RX6, TX6, 31, zc6, by decide, rfl, Or.inl (zW.at 669 rfl rfl)⟩
set_option maxRecDepth 100000 in
theorem fpX6_22 : zFp RX6 22 6 21 (.array .int) true := ⟨RX6, TX6, 31, zc6, by decide, rfl, Or.inl ⟨rfl, rfl, zW.at 669 rfl rfl⟩, rfl, by decide +kernel⟩
set_option maxRecDepth 100000 in
theorem fdX6_25 : zFd RX6 25 6 22 := ⟨RX6, TX6, 31, zc6, by decide, rfl, Or.inl (zW.at 670 rfl rfl)⟩
set_option maxRecDepth 100000 in
theorem fpX6_25 : zFp RX6 25 6 22 (.array .int) true := ⟨RX6, TX6, 31, zc6, by decide, rfl, Or.inl ⟨rfl, rfl, zW.at 670 rfl rfl⟩, rfl, by decide +kernel⟩
set_option maxRecDepth 100000 in
theorem fdX6_251 : zFd RX6 251 6 23 := ⟨RX6, TX6, 31, zc6, by decide, rfl, Or.inl (zW.at 671 rfl rfl)⟩
set_option maxRecDepth 100000 in
theorem fpX6_251 : zFp RX6 251 6 23 (.int) false := ⟨RX6, TX6, 31, zc6, by decide, rfl, Or.inr ⟨rfl, Or.inl (zW.at 671 rfl rfl)⟩, rfl, by decide +kernel⟩
set_option maxRecDepth 100000 in
theorem fdX6_254 : zFd RX6 254 6 24 := ⟨RX6, TX6, 31, zc6, by decide, rfl, Or.inl (zW.at 672 rfl rfl)⟩
set_option maxRecDepth 100000 in
theorem fpX6_254 : zFp RX6 254 6 24 (.int) false := ⟨RX6, TX6, 31, zc6, by decide, rfl, Or.inr ⟨rfl, Or.inl (zW.at 672 rfl rfl)⟩, rfl, by decide +kernel⟩
set_option maxRecDepth 100000 in
theorem fdX6_257 : zFd RX6 257 6 25 := ⟨RX6, TX6, 31, zc6, by decide, rfl, Or.inl (zW.at 673 rfl rfl)⟩
set_option maxRecDepth 100000 in
theorem fpX6_257 : zFp RX6 257 6 25 (.int) false := ⟨RX6, TX6, 31, zc6, by decide, rfl, Or.inr ⟨rfl, Or.inl (zW.at 673 rfl rfl)⟩, rfl, by decide +kernel⟩
set_option maxRecDepth 100000 in
theorem fdX6_248 : zFd RX6 248 6 26 := ⟨RX6, TX6, 31, zc6, by decide, rfl, Or.inl (zW.at 674 rfl rfl)⟩
set_option maxRecDepth 100000 in
theorem fpX6_248 : zFp RX6 248 6 26 (.int) false := ⟨RX6, TX6, 31, zc6, by decide, rfl, Or.inr ⟨rfl, Or.inl (zW.at 674 rfl rfl)⟩, rfl, by decide +kernel⟩
set_option maxRecDepth 100000 in
theorem fdX6_28 : zFd RX6 28 6 27 := ⟨RX6, TX6, 31, zc6, by decide, rfl, Or.inl (zW.at 675 rfl rfl)⟩
set_option maxRecDepth 100000 in
theorem fpX6_28 : zFp RX6 28 6 27 (.array .int) true := ⟨RX6, TX6, 31, zc6, by decide, rfl, Or.inl ⟨rfl, rfl, zW.at 675 rfl rfl⟩, rfl, by decide +kernel⟩
set_option maxRecDepth 100000 in
theorem fdX6_31 : zFd RX6 31 6 28 := ⟨RX6, TX6, 31, zc6, by decide, rfl, Or.inl (zW.at 676 rfl rfl)⟩
set_option maxRecDepth 100000 in
theorem fpX6_31 : zFp RX6 31 6 28 (.array .int) true := ⟨RX6, TX6, 31, zc6, by decide, rfl, Or.inl ⟨rfl, rfl, zW.at 676 rfl rfl⟩, rfl, by decide +kernel⟩
set_option maxRecDepth 100000 in
theorem fdX6_34 : zFd RX6 34 6 29 := ⟨RX6, TX6, 31, zc6, by decide, rfl, Or.inl (zW.at 677 rfl rfl)⟩
set_option maxRecDepth 100000 in
theorem fpX6_34 : zFp RX6 34 6 29 (.array .long) true := ⟨RX6, TX6, 31, zc6, by decide, rfl, Or.inl ⟨rfl, rfl, zW.at 677 rfl rfl⟩, rfl, by decide +kernel⟩
set_option maxRecDepth 100000 in
theorem fdX6_38 : zFd RX6 38 6 30 := ⟨RX6, TX6, 31, zc6, by decide, rfl, Or.inl (zW.at 678 rfl rfl)⟩
set_option maxRecDepth 100000 in
theorem fpX6_38 : zFp RX6 38 6 30 (.array .long) true := ⟨RX6, TX6, 31, zc6, by decide, rfl, Or.inl ⟨rfl, rfl, zW.at 678 rfl rfl⟩, rfl, by decide +kernel⟩
set_option maxRecDepth 100000 in
theorem kvL_17 : zKV RL 17 RX6 yX6_write cX6_write 2 (some .int) 1 := ⟨zG1.at 742 rfl rfl, zG1.at 743 rfl rfl, zG1.at 744 rfl rfl, zG1.at 77 rfl rfl, zG1.at 745 rfl rfl, by decide +kernel, by decide⟩
set_option maxRecDepth 100000 in
theorem knX6_159 : zW (.constantLong RX6 159 (255)) := zW.at 746 rfl rfl
set_option maxRecDepth 100000 in
theorem ksX6_45 : zKS RX6 45 yX6_in cX6_in 6 (some .boolean) 3 := ⟨Or.inl (zG1.at 747 rfl rfl), zG1.at 748 rfl rfl, zG1.at 77 rfl rfl, zG1.at 749 rfl rfl, by decide +kernel, by decide⟩
set_option maxRecDepth 100000 in
theorem knX6_161 : zW (.constant RX6 161 (-1000002)) := zW.at 750 rfl rfl
set_option maxRecDepth 100000 in
theorem knX6_165 : zW (.constant RX6 165 (-1000004)) := zW.at 751 rfl rfl
set_option maxRecDepth 100000 in
theorem kvL_22 : zKV RL 22 RX6 yX6_ring cX6_ring 5 (some .int) 0 := ⟨zG1.at 752 rfl rfl, zG1.at 753 rfl rfl, zG1.at 754 rfl rfl, zG1.at 77 rfl rfl, zG1.at 755 rfl rfl, by decide +kernel, by decide⟩
set_option maxRecDepth 100000 in
theorem kvX6_193 : zKV RX6 193 RX6 yX6_reads cX6_reads 1 none 0 := ⟨zG1.at 756 rfl rfl, zG1.at 758 rfl rfl, zG1.at 32 rfl rfl, zG1.at 77 rfl rfl, zG1.at 759 rfl rfl, by decide +kernel, by decide⟩
set_option maxRecDepth 100000 in
theorem kvX6_185 : zKV RX6 185 RX6 yX6_isDigit cX6_isDigit 2 (some .boolean) 1 := ⟨zG1.at 760 rfl rfl, zG1.at 762 rfl rfl, zG1.at 33 rfl rfl, zG1.at 77 rfl rfl, zG1.at 763 rfl rfl, by decide +kernel, by decide⟩
set_option maxRecDepth 100000 in
theorem knX6_166 : zW (.constantLong RX6 166 (48)) := zW.at 764 rfl rfl
set_option maxRecDepth 100000 in
theorem knX6_168 : zW (.constantLong RX6 168 (57)) := zW.at 765 rfl rfl
set_option maxRecDepth 100000 in
theorem kvX6_196 : zKV RX6 196 RX6 yX6_readsContender cX6_readsContender 2 (some .int) 1 := ⟨zG1.at 766 rfl rfl, zG1.at 768 rfl rfl, zG1.at 34 rfl rfl, zG1.at 77 rfl rfl, zG1.at 769 rfl rfl, by decide +kernel, by decide⟩
set_option maxRecDepth 100000 in
theorem kvX6_189 : zKV RX6 189 RX6 yX6_isTold cX6_isTold 5 (some .boolean) 2 := ⟨zG1.at 770 rfl rfl, zG1.at 772 rfl rfl, zG1.at 35 rfl rfl, zG1.at 77 rfl rfl, zG1.at 773 rfl rfl, by decide +kernel, by decide⟩
set_option maxRecDepth 100000 in
theorem kvX6_202 : zKV RX6 202 RX6 yX6_clears cX6_clears 2 none 0 := ⟨zG1.at 774 rfl rfl, zG1.at 776 rfl rfl, zG1.at 36 rfl rfl, zG1.at 77 rfl rfl, zG1.at 777 rfl rfl, by decide +kernel, by decide⟩
set_option maxRecDepth 100000 in
theorem kvX6_59 : zKV RX6 59 RX6 yX6_set cX6_set 5 none 4 := ⟨zG1.at 778 rfl rfl, zG1.at 780 rfl rfl, zG1.at 37 rfl rfl, zG1.at 77 rfl rfl, zG1.at 781 rfl rfl, by decide +kernel, by decide⟩
set_option maxRecDepth 100000 in
theorem ksX6_49 : zKS RX6 49 yX6_ofContender cX6_ofContender 3 (some .int) 3 := ⟨Or.inl (zG1.at 782 rfl rfl), zG1.at 783 rfl rfl, zG1.at 77 rfl rfl, zG1.at 784 rfl rfl, by decide +kernel, by decide⟩
set_option maxRecDepth 100000 in
theorem kvL_26 : zKV RL 26 RX6 yX6_fault cX6_fault 1 (some .int) 0 := ⟨zG1.at 785 rfl rfl, zG1.at 786 rfl rfl, zG1.at 787 rfl rfl, zG1.at 77 rfl rfl, zG1.at 788 rfl rfl, by decide +kernel, by decide⟩
set_option maxRecDepth 100000 in
theorem kvL_31 : zKV RL 31 RX6 yX6_begin cX6_begin 6 (some .int) 3 := ⟨zG1.at 789 rfl rfl, zG1.at 790 rfl rfl, zG1.at 791 rfl rfl, zG1.at 77 rfl rfl, zG1.at 792 rfl rfl, by decide +kernel, by decide⟩
set_option maxRecDepth 100000 in
theorem knX6_205 : zW (.constantLong RX6 205 (4)) := zW.at 793 rfl rfl
set_option maxRecDepth 100000 in
theorem knX6_207 : zW (.constantLong RX6 207 (9)) := zW.at 794 rfl rfl
set_option maxRecDepth 100000 in
theorem knX6_209 : zW (.constantLong RX6 209 (999999)) := zW.at 795 rfl rfl
set_option maxRecDepth 100000 in
theorem knX6_211 : zW (.constant RX6 211 (-1000003)) := zW.at 796 rfl rfl
set_option maxRecDepth 100000 in
theorem knX6_69 : zW (.constantLong RX6 69 (2147483647)) := zW.at 797 rfl rfl
set_option maxRecDepth 100000 in
theorem kvL_35 : zKV RL 35 RX6 yX6_wake cX6_wake 3 (some .int) 1 := ⟨zG1.at 798 rfl rfl, zG1.at 799 rfl rfl, zG1.at 800 rfl rfl, zG1.at 77 rfl rfl, zG1.at 801 rfl rfl, by decide +kernel, by decide⟩
set_option maxRecDepth 100000 in
theorem kvX6_212 : zKV RX6 212 RX6 yX6_isContender cX6_isContender 2 (some .boolean) 1 := ⟨zG1.at 802 rfl rfl, zG1.at 804 rfl rfl, zG1.at 38 rfl rfl, zG1.at 77 rfl rfl, zG1.at 805 rfl rfl, by decide +kernel, by decide⟩
set_option maxRecDepth 100000 in
theorem knX6_215 : zW (.constant RX6 215 (-1000001)) := zW.at 806 rfl rfl
set_option maxRecDepth 100000 in
theorem kvX6_216 : zKV RX6 216 RX6 yX6_isBegun cX6_isBegun 1 (some .boolean) 0 := ⟨zG1.at 807 rfl rfl, zG1.at 809 rfl rfl, zG1.at 39 rfl rfl, zG1.at 77 rfl rfl, zG1.at 810 rfl rfl, by decide +kernel, by decide⟩
set_option maxRecDepth 100000 in
theorem kvX6_56 : zKV RX6 56 RX6 yX6_has cX6_has 4 (some .int) 3 := ⟨zG1.at 811 rfl rfl, zG1.at 813 rfl rfl, zG1.at 40 rfl rfl, zG1.at 77 rfl rfl, zG1.at 814 rfl rfl, by decide +kernel, by decide⟩
set_option maxRecDepth 100000 in
theorem kvX6_220 : zKV RX6 220 RX6 yX6_notes cX6_notes 2 none 0 := ⟨zG1.at 815 rfl rfl, zG1.at 817 rfl rfl, zG1.at 41 rfl rfl, zG1.at 77 rfl rfl, zG1.at 818 rfl rfl, by decide +kernel, by decide⟩
set_option maxRecDepth 100000 in
theorem kvX6_156 : zKV RX6 156 RX6 yX6_copies cX6_copies 4 none 2 := ⟨zG1.at 819 rfl rfl, zG1.at 821 rfl rfl, zG1.at 42 rfl rfl, zG1.at 77 rfl rfl, zG1.at 822 rfl rfl, by decide +kernel, by decide⟩
set_option maxRecDepth 100000 in
theorem kvX6_223 : zKV RX6 223 RX6 yX6_begins cX6_begins 4 none 2 := ⟨zG1.at 823 rfl rfl, zG1.at 825 rfl rfl, zG1.at 43 rfl rfl, zG1.at 77 rfl rfl, zG1.at 826 rfl rfl, by decide +kernel, by decide⟩
set_option maxRecDepth 100000 in
theorem kvX6_71 : zKV RX6 71 RX6 yX6_rightOf cX6_rightOf 3 (some .int) 2 := ⟨zG1.at 827 rfl rfl, zG1.at 829 rfl rfl, zG1.at 44 rfl rfl, zG1.at 77 rfl rfl, zG1.at 830 rfl rfl, by decide +kernel, by decide⟩
set_option maxRecDepth 100000 in
theorem kvX6_63 : zKV RX6 63 RX6 yX6_sends cX6_sends 9 none 7 := ⟨zG1.at 831 rfl rfl, zG1.at 833 rfl rfl, zG1.at 45 rfl rfl, zG1.at 77 rfl rfl, zG1.at 834 rfl rfl, by decide +kernel, by decide⟩
set_option maxRecDepth 100000 in
theorem ksX6_53 : zKS RX6 53 yX6_ofLetter cX6_ofLetter 3 (some .int) 3 := ⟨Or.inl (zG1.at 835 rfl rfl), zG1.at 836 rfl rfl, zG1.at 77 rfl rfl, zG1.at 837 rfl rfl, by decide +kernel, by decide⟩
set_option maxRecDepth 100000 in
theorem kvX6_75 : zKV RX6 75 RX6 yX6_probes cX6_probes 4 none 2 := ⟨zG1.at 838 rfl rfl, zG1.at 840 rfl rfl, zG1.at 46 rfl rfl, zG1.at 77 rfl rfl, zG1.at 841 rfl rfl, by decide +kernel, by decide⟩
set_option maxRecDepth 100000 in
theorem kvX6_79 : zKV RX6 79 RX6 yX6_draws cX6_draws 5 none 2 := ⟨zG1.at 842 rfl rfl, zG1.at 844 rfl rfl, zG1.at 47 rfl rfl, zG1.at 77 rfl rfl, zG1.at 845 rfl rfl, by decide +kernel, by decide⟩
set_option maxRecDepth 100000 in
theorem knX6_67 : zW (.constantLong RX6 67 (16807)) := zW.at 846 rfl rfl
set_option maxRecDepth 100000 in
theorem kvL_39 : zKV RL 39 RX6 yX6_deliver cX6_deliver 2 (some .int) 1 := ⟨zG1.at 847 rfl rfl, zG1.at 848 rfl rfl, zG1.at 849 rfl rfl, zG1.at 77 rfl rfl, zG1.at 850 rfl rfl, by decide +kernel, by decide⟩
set_option maxRecDepth 100000 in
theorem kvX6_226 : zKV RX6 226 RX6 yX6_isLink cX6_isLink 2 (some .boolean) 1 := ⟨zG1.at 851 rfl rfl, zG1.at 853 rfl rfl, zG1.at 48 rfl rfl, zG1.at 77 rfl rfl, zG1.at 854 rfl rfl, by decide +kernel, by decide⟩
set_option maxRecDepth 100000 in
theorem kvX6_133 : zKV RX6 133 RX6 yX6_manyOn cX6_manyOn 5 (some .int) 2 := ⟨zG1.at 855 rfl rfl, zG1.at 857 rfl rfl, zG1.at 49 rfl rfl, zG1.at 77 rfl rfl, zG1.at 858 rfl rfl, by decide +kernel, by decide⟩
set_option maxRecDepth 100000 in
theorem kvX6_150 : zKV RX6 150 RX6 yX6_delivers cX6_delivers 7 (some .int) 2 := ⟨zG1.at 859 rfl rfl, zG1.at 861 rfl rfl, zG1.at 50 rfl rfl, zG1.at 77 rfl rfl, zG1.at 862 rfl rfl, by decide +kernel, by decide⟩
set_option maxRecDepth 100000 in
theorem kvX6_127 : zKV RX6 127 RX6 yX6_letterOn cX6_letterOn 8 (some .int) 3 := ⟨zG1.at 863 rfl rfl, zG1.at 865 rfl rfl, zG1.at 51 rfl rfl, zG1.at 77 rfl rfl, zG1.at 866 rfl rfl, by decide +kernel, by decide⟩
set_option maxRecDepth 100000 in
theorem kvX6_130 : zKV RX6 130 RX6 yX6_comes cX6_comes 6 none 3 := ⟨zG1.at 867 rfl rfl, zG1.at 869 rfl rfl, zG1.at 52 rfl rfl, zG1.at 77 rfl rfl, zG1.at 870 rfl rfl, by decide +kernel, by decide⟩
set_option maxRecDepth 100000 in
theorem kvX6_100 : zKV RX6 100 RX6 yX6_goesOn cX6_goesOn 2 none 1 := ⟨zG1.at 871 rfl rfl, zG1.at 873 rfl rfl, zG1.at 53 rfl rfl, zG1.at 77 rfl rfl, zG1.at 874 rfl rfl, by decide +kernel, by decide⟩
set_option maxRecDepth 100000 in
theorem kvX6_111 : zKV RX6 111 RX6 yX6_comesByGreatest cX6_comesByGreatest 4 none 3 := ⟨zG1.at 875 rfl rfl, zG1.at 877 rfl rfl, zG1.at 54 rfl rfl, zG1.at 77 rfl rfl, zG1.at 878 rfl rfl, by decide +kernel, by decide⟩
set_option maxRecDepth 100000 in
theorem kvX6_104 : zKV RX6 104 RX6 yX6_heads cX6_heads 4 none 3 := ⟨zG1.at 879 rfl rfl, zG1.at 881 rfl rfl, zG1.at 55 rfl rfl, zG1.at 77 rfl rfl, zG1.at 882 rfl rfl, by decide +kernel, by decide⟩
set_option maxRecDepth 100000 in
theorem kvX6_115 : zKV RX6 115 RX6 yX6_comesProbe cX6_comesProbe 4 none 3 := ⟨zG1.at 883 rfl rfl, zG1.at 885 rfl rfl, zG1.at 56 rfl rfl, zG1.at 77 rfl rfl, zG1.at 886 rfl rfl, by decide +kernel, by decide⟩
set_option maxRecDepth 100000 in
theorem kvX6_118 : zKV RX6 118 RX6 yX6_comesReply cX6_comesReply 4 none 3 := ⟨zG1.at 887 rfl rfl, zG1.at 889 rfl rfl, zG1.at 57 rfl rfl, zG1.at 77 rfl rfl, zG1.at 890 rfl rfl, by decide +kernel, by decide⟩
set_option maxRecDepth 100000 in
theorem kvX6_121 : zKV RX6 121 RX6 yX6_comesByDraws cX6_comesByDraws 8 none 3 := ⟨zG1.at 891 rfl rfl, zG1.at 893 rfl rfl, zG1.at 58 rfl rfl, zG1.at 77 rfl rfl, zG1.at 894 rfl rfl, by decide +kernel, by decide⟩
set_option maxRecDepth 100000 in
theorem kvX6_124 : zKV RX6 124 RX6 yX6_comesByPhases cX6_comesByPhases 6 none 3 := ⟨zG1.at 895 rfl rfl, zG1.at 897 rfl rfl, zG1.at 59 rfl rfl, zG1.at 77 rfl rfl, zG1.at 898 rfl rfl, by decide +kernel, by decide⟩
set_option maxRecDepth 100000 in
theorem kvL_43 : zKV RL 43 RX6 yX6_run cX6_run 5 (some .int) 3 := ⟨zG1.at 899 rfl rfl, zG1.at 900 rfl rfl, zG1.at 901 rfl rfl, zG1.at 77 rfl rfl, zG1.at 902 rfl rfl, by decide +kernel, by decide⟩
set_option maxRecDepth 100000 in
theorem ksX6_231 : zKS RX6 231 yX6_isOrder cX6_isOrder 2 (some .boolean) 2 := ⟨Or.inl (zG1.at 903 rfl rfl), zG1.at 904 rfl rfl, zG1.at 77 rfl rfl, zG1.at 905 rfl rfl, by decide +kernel, by decide⟩
set_option maxRecDepth 100000 in
theorem knX6_229 : zW (.constantLong RX6 229 (3)) := zW.at 906 rfl rfl
set_option maxRecDepth 100000 in
theorem knX6_234 : zW (.constantLong RX6 234 (200)) := zW.at 907 rfl rfl
set_option maxRecDepth 100000 in
theorem kvX6_236 : zKV RX6 236 RX6 yX6_runs cX6_runs 8 (some .int) 4 := ⟨zG1.at 908 rfl rfl, zG1.at 910 rfl rfl, zG1.at 60 rfl rfl, zG1.at 77 rfl rfl, zG1.at 911 rfl rfl, by decide +kernel, by decide⟩
set_option maxRecDepth 100000 in
theorem kvX6_147 : zKV RX6 147 RX6 yX6_nextLink cX6_nextLink 6 (some .int) 3 := ⟨zG1.at 912 rfl rfl, zG1.at 914 rfl rfl, zG1.at 61 rfl rfl, zG1.at 77 rfl rfl, zG1.at 915 rfl rfl, by decide +kernel, by decide⟩
set_option maxRecDepth 100000 in
theorem kvX6_136 : zKV RX6 136 RX6 yX6_manyLinks cX6_manyLinks 4 (some .int) 1 := ⟨zG1.at 916 rfl rfl, zG1.at 918 rfl rfl, zG1.at 62 rfl rfl, zG1.at 77 rfl rfl, zG1.at 919 rfl rfl, by decide +kernel, by decide⟩
set_option maxRecDepth 100000 in
theorem kvX6_140 : zKV RX6 140 RX6 yX6_linkBy cX6_linkBy 7 (some .int) 2 := ⟨zG1.at 920 rfl rfl, zG1.at 922 rfl rfl, zG1.at 63 rfl rfl, zG1.at 77 rfl rfl, zG1.at 923 rfl rfl, by decide +kernel, by decide⟩
set_option maxRecDepth 100000 in
theorem kvL_47 : zKV RL 47 RX6 yX6_undo cX6_undo 1 (some .int) 0 := ⟨zG1.at 924 rfl rfl, zG1.at 925 rfl rfl, zG1.at 926 rfl rfl, zG1.at 77 rfl rfl, zG1.at 927 rfl rfl, by decide +kernel, by decide⟩
set_option maxRecDepth 100000 in
theorem kvL_52 : zKV RL 52 RX6 yX6_contender cX6_contender 4 (some .int) 2 := ⟨zG1.at 928 rfl rfl, zG1.at 929 rfl rfl, zG1.at 930 rfl rfl, zG1.at 77 rfl rfl, zG1.at 931 rfl rfl, by decide +kernel, by decide⟩
set_option maxRecDepth 100000 in
theorem kvL_56 : zKV RL 56 RX6 yX6_link cX6_link 2 (some .int) 1 := ⟨zG1.at 932 rfl rfl, zG1.at 933 rfl rfl, zG1.at 934 rfl rfl, zG1.at 77 rfl rfl, zG1.at 935 rfl rfl, by decide +kernel, by decide⟩
set_option maxRecDepth 100000 in
theorem kvL_60 : zKV RL 60 RX6 yX6_letter cX6_letter 4 (some .int) 3 := ⟨zG1.at 936 rfl rfl, zG1.at 937 rfl rfl, zG1.at 938 rfl rfl, zG1.at 77 rfl rfl, zG1.at 939 rfl rfl, by decide +kernel, by decide⟩
set_option maxRecDepth 100000 in
theorem kvL_64 : zKV RL 64 RX6 yX6_sent cX6_sent 2 (some .int) 1 := ⟨zG1.at 940 rfl rfl, zG1.at 941 rfl rfl, zG1.at 942 rfl rfl, zG1.at 77 rfl rfl, zG1.at 943 rfl rfl, by decide +kernel, by decide⟩
set_option maxRecDepth 100000 in
theorem knX6_240 : zW (.constantLong RX6 240 (7)) := zW.at 944 rfl rfl
set_option maxRecDepth 100000 in
theorem kvL_68 : zKV RL 68 RX6 yX6_would cX6_would 5 (some .int) 3 := ⟨zG1.at 945 rfl rfl, zG1.at 946 rfl rfl, zG1.at 947 rfl rfl, zG1.at 77 rfl rfl, zG1.at 948 rfl rfl, by decide +kernel, by decide⟩
set_option maxRecDepth 100000 in
theorem kvX6_242 : zKV RX6 242 RX6 yX6_headOf cX6_headOf 4 (some .int) 1 := ⟨zG1.at 949 rfl rfl, zG1.at 951 rfl rfl, zG1.at 64 rfl rfl, zG1.at 77 rfl rfl, zG1.at 952 rfl rfl, by decide +kernel, by decide⟩
set_option maxRecDepth 100000 in
theorem kvX6_245 : zKV RX6 245 RX6 yX6_manyAre cX6_manyAre 5 (some .int) 2 := ⟨zG1.at 953 rfl rfl, zG1.at 955 rfl rfl, zG1.at 65 rfl rfl, zG1.at 77 rfl rfl, zG1.at 956 rfl rfl, by decide +kernel, by decide⟩
set_option maxRecDepth 100000 in
theorem kvL_72 : zKV RL 72 RX6 yX6_foresee cX6_foresee 3 (some .int) 2 := ⟨zG1.at 957 rfl rfl, zG1.at 958 rfl rfl, zG1.at 959 rfl rfl, zG1.at 77 rfl rfl, zG1.at 960 rfl rfl, by decide +kernel, by decide⟩
set_option maxRecDepth 100000 in
theorem kvX6_263 : zKV RX6 263 RX6 yX6_tries cX6_tries 7 none 1 := ⟨zG1.at 961 rfl rfl, zG1.at 963 rfl rfl, zG1.at 66 rfl rfl, zG1.at 77 rfl rfl, zG1.at 964 rfl rfl, by decide +kernel, by decide⟩
set_option maxRecDepth 100000 in
theorem kvX6_260 : zKV RX6 260 RX6 yX6_tallies cX6_tallies 3 none 1 := ⟨zG1.at 965 rfl rfl, zG1.at 967 rfl rfl, zG1.at 67 rfl rfl, zG1.at 77 rfl rfl, zG1.at 968 rfl rfl, by decide +kernel, by decide⟩
set_option maxRecDepth 100000 in
theorem kvL_76 : zKV RL 76 RX6 yX6_sit cX6_sit 8 (some .int) 1 := ⟨zG1.at 969 rfl rfl, zG1.at 970 rfl rfl, zG1.at 971 rfl rfl, zG1.at 77 rfl rfl, zG1.at 972 rfl rfl, by decide +kernel, by decide⟩
set_option maxRecDepth 100000 in
theorem kvX6_266 : zKV RX6 266 RX6 yX6_letters cX6_letters 4 (some .int) 0 := ⟨zG1.at 973 rfl rfl, zG1.at 975 rfl rfl, zG1.at 68 rfl rfl, zG1.at 77 rfl rfl, zG1.at 976 rfl rfl, by decide +kernel, by decide⟩
set_option maxRecDepth 100000 in
theorem kvX6_270 : zKV RX6 270 RX6 yX6_nextSeats cX6_nextSeats 5 (some .boolean) 0 := ⟨zG1.at 977 rfl rfl, zG1.at 979 rfl rfl, zG1.at 69 rfl rfl, zG1.at 77 rfl rfl, zG1.at 980 rfl rfl, by decide +kernel, by decide⟩
set_option maxRecDepth 100000 in
theorem ksX6_273 : zKS RX6 273 yX6_commonOf cX6_commonOf 10 (some .long) 2 := ⟨Or.inl (zG1.at 981 rfl rfl), zG1.at 982 rfl rfl, zG1.at 77 rfl rfl, zG1.at 983 rfl rfl, by decide +kernel, by decide⟩
set_option maxRecDepth 100000 in
theorem kvL_81 : zKV RL 81 RX6 yX6_chance cX6_chance 10 (some .long) 4 := ⟨zG1.at 984 rfl rfl, zG1.at 985 rfl rfl, zG1.at 986 rfl rfl, zG1.at 77 rfl rfl, zG1.at 987 rfl rfl, by decide +kernel, by decide⟩
set_option maxRecDepth 100000 in
theorem knX6_281 : zW (.constantLong RX6 281 (5)) := zW.at 988 rfl rfl
set_option maxRecDepth 100000 in
theorem knX6_283 : zW (.constantLong RX6 283 (-1000002)) := zW.at 989 rfl rfl
set_option maxRecDepth 100000 in
theorem ksX6_277 : zKS RX6 277 yX6_power cX6_power 6 (some .long) 2 := ⟨Or.inl (zG1.at 990 rfl rfl), zG1.at 991 rfl rfl, zG1.at 77 rfl rfl, zG1.at 992 rfl rfl, by decide +kernel, by decide⟩
set_option maxRecDepth 100000 in
theorem ksX6_285 : zKS RX6 285 yX6_leave cX6_leave 8 (some .long) 3 := ⟨Or.inl (zG1.at 993 rfl rfl), zG1.at 994 rfl rfl, zG1.at 77 rfl rfl, zG1.at 995 rfl rfl, by decide +kernel, by decide⟩
set_option maxRecDepth 100000 in
theorem kvL_85 : zKV RL 85 RX6 yX6_count cX6_count 3 (some .int) 1 := ⟨zG1.at 996 rfl rfl, zG1.at 997 rfl rfl, zG1.at 998 rfl rfl, zG1.at 77 rfl rfl, zG1.at 999 rfl rfl, by decide +kernel, by decide⟩
set_option maxRecDepth 100000 in
theorem oi_i : zW (.instanceMethod objectInit) := zW.at 86 rfl rfl
set_option maxRecDepth 100000 in
theorem oi_c : zW (.code objectInit ⟨#[0xb1]⟩ 1 none) := zW.at 87 rfl rfl
set_option maxRecDepth 100000 in
theorem arr_int : zW (.arrayClass .int) := zW.at 112 rfl rfl
set_option maxRecDepth 100000 in
theorem ac_s : zW (.static arraycopyName) := zW.at 308 rfl rfl
set_option maxRecDepth 100000 in
theorem ac_n : zW (.native arraycopyName) := zW.at 309 rfl rfl
set_option maxRecDepth 100000 in
theorem mm_s_min : zW (.static Lib.Math.min.name) := zW.at 596 rfl rfl
set_option maxRecDepth 100000 in
theorem mm_c_min : zW (.code Lib.Math.min.name Lib.Math.min.code 2 (some .int)) := zW.at 597 rfl rfl
set_option maxRecDepth 100000 in
theorem mm_s_max : zW (.static Lib.Math.max.name) := zW.at 599 rfl rfl
set_option maxRecDepth 100000 in
theorem mm_c_max : zW (.code Lib.Math.max.name Lib.Math.max.code 2 (some .int)) := zW.at 600 rfl rfl
set_option maxRecDepth 100000 in
theorem arr_long : zW (.arrayClass .long) := zW.at 637 rfl rfl
set_option maxRecDepth 100000 in
theorem ac_i : zW (.initialized "java/lang/System") := zW.at 78 rfl rfl
set_option maxRecDepth 100000 in
theorem mm_i : zW (.initialized "java/lang/Math") := zW.at 79 rfl rfl
set_option maxRecDepth 100000 in
theorem in0 : zW (.initialized RX0) := zW.at 74 rfl rfl
set_option maxRecDepth 100000 in
theorem is0 : zW (.instantiable RX0 8) := zW.at 133 rfl rfl
set_option maxRecDepth 100000 in
theorem in1 : zW (.initialized RX1) := zW.at 76 rfl rfl
set_option maxRecDepth 100000 in
theorem is1 : zW (.instantiable RX1 6) := zW.at 187 rfl rfl
set_option maxRecDepth 100000 in
theorem in2 : zW (.initialized RX2) := zW.at 75 rfl rfl
set_option maxRecDepth 100000 in
theorem is2 : zW (.instantiable RX2 3) := zW.at 167 rfl rfl
set_option maxRecDepth 100000 in
theorem in3 : zW (.initialized RX3) := zW.at 73 rfl rfl
set_option maxRecDepth 100000 in
theorem is3 : zW (.instantiable RX3 3) := zW.at 114 rfl rfl
set_option maxRecDepth 100000 in
theorem in4 : zW (.initialized RX4) := zW.at 72 rfl rfl
set_option maxRecDepth 100000 in
theorem is4 : zW (.instantiable RX4 5) := zW.at 89 rfl rfl
set_option maxRecDepth 100000 in
theorem in5 : zW (.initialized RX5) := zW.at 71 rfl rfl
set_option maxRecDepth 100000 in
theorem is5 : zW (.instantiable RX5 7) := zW.at 81 rfl rfl
set_option maxRecDepth 100000 in
theorem in6 : zW (.initialized RX6) := zW.at 77 rfl rfl
set_option maxRecDepth 100000 in
theorem is6 : zW (.instantiable RX6 31) := zW.at 643 rfl rfl
end
section
/-! ===== what the cells of the class are ===== -/
def inb (i : Int32) (n : Nat) : Bool := decide (0 ≤ i.toInt) && decide (i.toInt < n)
theorem inb_in {i : Int32} {n : Nat} (h : inb i n = true) : vp_in i n := by
  simp only [inb, Bool.and_eq_true, decide_eq_true_eq] at h
  exact vp_in_iff.mpr h
theorem inb_of {i N : Int32} {n : Nat} (hN : N.toInt = n) (h0 : ¬ i < 0) (h1 : ¬ N ≤ i) : inb i n = true := by
  have a : ¬ i.toInt < 0 := fun q => h0 (Int32.lt_iff_toInt_lt.mpr q)
  have b : ¬ N.toInt ≤ i.toInt := fun q => h1 (Int32.le_iff_toInt_le.mpr q)
  simp only [inb, Bool.and_eq_true, decide_eq_true_eq]
  omega
theorem inb_f1 {i : Int32} {n : Nat} (h0 : i < 0) : inb i n = false := by
  have a : i.toInt < 0 := Int32.lt_iff_toInt_lt.mp h0
  simp only [inb, Bool.and_eq_false_iff, decide_eq_false_iff_not]
  omega
theorem inb_f2 {i N : Int32} {n : Nat} (hN : N.toInt = n) (h1 : N ≤ i) : inb i n = false := by
  have b : N.toInt ≤ i.toInt := Int32.le_iff_toInt_le.mp h1
  simp only [inb, Bool.and_eq_false_iff, decide_eq_false_iff_not]
  omega
theorem inb_le {i M : Int32} {n : Nat} (hM : M.toInt + 1 = n) : inb i n = true ↔ (0 ≤ i ∧ i ≤ M) := by
  simp only [inb, Bool.and_eq_true, decide_eq_true_eq, Int32.le_iff_toInt_le]
  have : (0 : Int32).toInt = 0 := rfl
  omega
theorem inb_nI {k n : Nat} (h : k < n) (hn : n < 2 ^ 31) : inb (nI k) n = true := by
  simp only [inb, Bool.and_eq_true, decide_eq_true_eq]
  rw [nI_toInt (by omega)]
  omega
def Fr (o n : Nat) (h0 h : hpT) : Prop := ∀ a, ¬ (o ≤ a ∧ a < o + n) → h a = h0 a
theorem Fr.rf {o n : Nat} {h : hpT} : Fr o n h h := fun _ _ => rfl
theorem Fr.set {o n : Nat} {h0 h : hpT} (hF : Fr o n h0 h) {a : Nat} (e : va_E) (h1 : o ≤ a) (h2 : a < o + n) : Fr o n h0 (hpS h a e) := by
  intro b hb
  rw [hpS_ne _ _ (fun q => hb (by rw [q]; exact ⟨h1, h2⟩))]
  exact hF b hb
/-- an election: way, greatest mark, cells, letters, how many letters, sent, the hand -/
abbrev ET : Type := Int32 × Int32 × (Nat → Int32) × (Nat → Int32) × Nat × (Nat → Int32) × (Nat → Int32)
abbrev eW (E : ET) : Int32 := E.1
abbrev eG (E : ET) : Int32 := E.2.1
abbrev eC (E : ET) : Nat → Int32 := E.2.2.1
abbrev eL (E : ET) : Nat → Int32 := E.2.2.2.1
abbrev eN (E : ET) : Nat := E.2.2.2.2.1
abbrev eS (E : ET) : Nat → Int32 := E.2.2.2.2.2.1
abbrev eH (E : ET) : Nat → Int32 := E.2.2.2.2.2.2
def eW' (E : ET) (x : Int32) : ET := (x, E.2)
def eG' (E : ET) (x : Int32) : ET := (E.1, x, E.2.2)
def eC' (E : ET) (f : Nat → Int32) : ET := (E.1, E.2.1, f, E.2.2.2)
def eL' (E : ET) (f : Nat → Int32) : ET := (E.1, E.2.1, E.2.2.1, f, E.2.2.2.2)
def eN' (E : ET) (n : Nat) : ET := (E.1, E.2.1, E.2.2.1, E.2.2.2.1, n, E.2.2.2.2.2)
def eS' (E : ET) (f : Nat → Int32) : ET := (E.1, E.2.1, E.2.2.1, E.2.2.2.1, E.2.2.2.2.1, f, E.2.2.2.2.2.2)
def eH' (E : ET) (f : Nat → Int32) : ET := (E.1, E.2.1, E.2.2.1, E.2.2.2.1, E.2.2.2.2.1, E.2.2.2.2.2.1, f)
/-- a ring: how many, names, senses -/
abbrev RG : Type := Nat × (Nat → Int32) × (Nat → Int32)
def fE (o r : Nat) (E : ET) : List Value := [.ref r, .int (eW E), .int (eG E), .ref (o + 1), .ref (o + 2), .int (nI (eN E)), .ref (o + 3), .ref (o + 4)]
def fR (r : Nat) (Q : RG) : List Value := [.int (nI Q.1), .ref (r + 1), .ref (r + 2)]
def EA (G : zGT) (h : hpT) (o r : Nat) (E : ET) : Prop := h o = some (ob 0 (fE o r E)) ∧ h (o + 1) = some (aI G 48 (eC E)) ∧ h (o + 2) = some (aI G 72 (eL E)) ∧ h (o + 3) = some (aI G 8 (eS E)) ∧ h (o + 4) = some (aI G 6 (eH E)) ∧ eN E ≤ 12
def RA (G : zGT) (h : hpT) (r : Nat) (Q : RG) : Prop := h r = some (ob 3 (fR r Q)) ∧ h (r + 1) = some (aI G 6 Q.2.1) ∧ h (r + 2) = some (aI G 6 Q.2.2) ∧ Q.1 ≤ 6
theorem EA.fr {G : zGT} {h h1 : hpT} {o r a n : Nat} {E : ET} (hE : EA G h o r E) (hF : Fr a n h h1) (hd : a + n ≤ o ∨ o + 5 ≤ a) : EA G h1 o r E := by
  obtain ⟨e1, e2, e3, e4, e5, e6⟩ := hE
  exact ⟨by rw [hF _ (by omega)]; exact e1, by rw [hF _ (by omega)]; exact e2, by rw [hF _ (by omega)]; exact e3, by rw [hF _ (by omega)]; exact e4, by rw [hF _ (by omega)]; exact e5, e6⟩
theorem RA.fr {G : zGT} {h h1 : hpT} {r a n : Nat} {Q : RG} (hR : RA G h r Q) (hF : Fr a n h h1) (hd : a + n ≤ r ∨ r + 3 ≤ a) : RA G h1 r Q := by
  obtain ⟨e1, e2, e3, e4⟩ := hR
  exact ⟨by rw [hF _ (by omega)]; exact e1, by rw [hF _ (by omega)]; exact e2, by rw [hF _ (by omega)]; exact e3, e4⟩
theorem Fr1 (h : hpT) (a : Nat) (e : va_E) : Fr a 1 h (hpS h a e) := Fr.rf.set e (Nat.le_refl a) (by omega)
/-- an election on its ring, and what has changed since h0 -/
def WE (G : zGT) (h0 h : hpT) (o r : Nat) (E : ET) (Q : RG) : Prop := EA G h o r E ∧ RA G h r Q ∧ Fr o 5 h0 h ∧ (r + 3 ≤ o ∨ o + 5 ≤ r)
section WEs
variable {G : zGT} {h0 h : hpT} {o r : Nat} {E : ET} {Q : RG}
theorem WE.sC (hW : WE G h0 h o r E Q) (f : Nat → Int32) : WE G h0 (hpS h (o + 1) (aI G 48 f)) o r (eC' E f) Q := by
  obtain ⟨⟨e1, e2, e3, e4, e5, e6⟩, hR, hF, hd⟩ := hW
  exact ⟨⟨by rw [hpS_ne _ _ (by omega)]; exact e1, hpS_self _ _ _, by rw [hpS_ne _ _ (by omega)]; exact e3, by rw [hpS_ne _ _ (by omega)]; exact e4, by rw [hpS_ne _ _ (by omega)]; exact e5, e6⟩, hR.fr (Fr1 _ _ _) (by omega), hF.set _ (by omega) (by omega), hd⟩
theorem WE.sL (hW : WE G h0 h o r E Q) (f : Nat → Int32) : WE G h0 (hpS h (o + 2) (aI G 72 f)) o r (eL' E f) Q := by
  obtain ⟨⟨e1, e2, e3, e4, e5, e6⟩, hR, hF, hd⟩ := hW
  exact ⟨⟨by rw [hpS_ne _ _ (by omega)]; exact e1, by rw [hpS_ne _ _ (by omega)]; exact e2, hpS_self _ _ _, by rw [hpS_ne _ _ (by omega)]; exact e4, by rw [hpS_ne _ _ (by omega)]; exact e5, e6⟩, hR.fr (Fr1 _ _ _) (by omega), hF.set _ (by omega) (by omega), hd⟩
theorem WE.sS (hW : WE G h0 h o r E Q) (f : Nat → Int32) : WE G h0 (hpS h (o + 3) (aI G 8 f)) o r (eS' E f) Q := by
  obtain ⟨⟨e1, e2, e3, e4, e5, e6⟩, hR, hF, hd⟩ := hW
  exact ⟨⟨by rw [hpS_ne _ _ (by omega)]; exact e1, by rw [hpS_ne _ _ (by omega)]; exact e2, by rw [hpS_ne _ _ (by omega)]; exact e3, hpS_self _ _ _, by rw [hpS_ne _ _ (by omega)]; exact e5, e6⟩, hR.fr (Fr1 _ _ _) (by omega), hF.set _ (by omega) (by omega), hd⟩
theorem WE.sH (hW : WE G h0 h o r E Q) (f : Nat → Int32) : WE G h0 (hpS h (o + 4) (aI G 6 f)) o r (eH' E f) Q := by
  obtain ⟨⟨e1, e2, e3, e4, e5, e6⟩, hR, hF, hd⟩ := hW
  exact ⟨⟨by rw [hpS_ne _ _ (by omega)]; exact e1, by rw [hpS_ne _ _ (by omega)]; exact e2, by rw [hpS_ne _ _ (by omega)]; exact e3, by rw [hpS_ne _ _ (by omega)]; exact e4, hpS_self _ _ _, e6⟩, hR.fr (Fr1 _ _ _) (by omega), hF.set _ (by omega) (by omega), hd⟩
theorem WE.sO (hW : WE G h0 h o r E Q) {E1 : ET} {fs : List Value} (hfs : fs = fE o r E1) (h1 : eC E1 = eC E) (h2 : eL E1 = eL E) (h3 : eS E1 = eS E) (h4 : eH E1 = eH E) (h5 : eN E1 ≤ 12) : WE G h0 (hpS h o (ob 0 fs)) o r E1 Q := by
  obtain ⟨⟨e1, e2, e3, e4, e5, e6⟩, hR, hF, hd⟩ := hW
  subst hfs
  exact ⟨⟨hpS_self _ _ _, by rw [hpS_ne _ _ (by omega), h1]; exact e2, by rw [hpS_ne _ _ (by omega), h2]; exact e3, by rw [hpS_ne _ _ (by omega), h3]; exact e4, by rw [hpS_ne _ _ (by omega), h4]; exact e5, h5⟩, hR.fr (Fr1 _ _ _) (by omega), hF.set _ (by omega) (by omega), hd⟩
theorem WE.sW (hW : WE G h0 h o r E Q) (x : Int32) : WE G h0 (hpS h o (ob 0 ((fE o r E).set 1 (.int x)))) o r (eW' E x) Q := hW.sO rfl rfl rfl rfl rfl hW.1.2.2.2.2.2
theorem WE.sG (hW : WE G h0 h o r E Q) (x : Int32) : WE G h0 (hpS h o (ob 0 ((fE o r E).set 2 (.int x)))) o r (eG' E x) Q := hW.sO rfl rfl rfl rfl rfl hW.1.2.2.2.2.2
theorem WE.sN (hW : WE G h0 h o r E Q) {x : Int32} (n : Nat) (hx : x = nI n) (hn : n ≤ 12) : WE G h0 (hpS h o (ob 0 ((fE o r E).set 5 (.int x)))) o r (eN' E n) Q := by
  subst hx
  exact hW.sO rfl rfl rfl rfl rfl hn
variable {l : Launch} {own : String} {cc : ByteArray} {nL : Nat} {rt : Option FieldType} {ini : Bool} {d kc ks : Nat} {Post : Option Value → hpT → Nat → Prop} {lv : List (Option Value)} {st : List Value} {sz : Nat}
theorem V_iastC (pc : Nat) {i x : Int32} (hd : decode cc pc = .ok (.iastore, 1)) (hW : WE G h0 h o r E Q) (hin : vp_in i 48) (kk : ∀ h, WE G h0 h o r (eC' E (upd (eC E) i.toNatClampNeg x)) Q → V l G own cc nL rt ini d kc ks Post (pc + 1) lv st h sz) : V l G own cc nL rt ini d kc ks Post pc lv (.int x :: .int i :: .ref (o + 1) :: st) h sz := V_iast pc hd hW.1.2.1 hin (kk _ (hW.sC _))
theorem V_iastL (pc : Nat) {i x : Int32} (hd : decode cc pc = .ok (.iastore, 1)) (hW : WE G h0 h o r E Q) (hin : vp_in i 72) (kk : ∀ h, WE G h0 h o r (eL' E (upd (eL E) i.toNatClampNeg x)) Q → V l G own cc nL rt ini d kc ks Post (pc + 1) lv st h sz) : V l G own cc nL rt ini d kc ks Post pc lv (.int x :: .int i :: .ref (o + 2) :: st) h sz := V_iast pc hd hW.1.2.2.1 hin (kk _ (hW.sL _))
theorem V_iastS (pc : Nat) {i x : Int32} (hd : decode cc pc = .ok (.iastore, 1)) (hW : WE G h0 h o r E Q) (hin : vp_in i 8) (kk : ∀ h, WE G h0 h o r (eS' E (upd (eS E) i.toNatClampNeg x)) Q → V l G own cc nL rt ini d kc ks Post (pc + 1) lv st h sz) : V l G own cc nL rt ini d kc ks Post pc lv (.int x :: .int i :: .ref (o + 3) :: st) h sz := V_iast pc hd hW.1.2.2.2.1 hin (kk _ (hW.sS _))
theorem V_iastH (pc : Nat) {i x : Int32} (hd : decode cc pc = .ok (.iastore, 1)) (hW : WE G h0 h o r E Q) (hin : vp_in i 6) (kk : ∀ h, WE G h0 h o r (eH' E (upd (eH E) i.toNatClampNeg x)) Q → V l G own cc nL rt ini d kc ks Post (pc + 1) lv st h sz) : V l G own cc nL rt ini d kc ks Post pc lv (.int x :: .int i :: .ref (o + 4) :: st) h sz := V_iast pc hd hW.1.2.2.2.2.1 hin (kk _ (hW.sH _))
theorem V_putEW (pc : Nat) {idx : Nat} {x : Int32} (hd : decode cc pc = .ok (.putfield idx, 3)) (hf : zFp own idx 0 1 .int false) (hW : WE G h0 h o r E Q) (kk : ∀ h, WE G h0 h o r (eW' E x) Q → V l G own cc nL rt ini d kc ks Post (pc + 3) lv st h sz) : V l G own cc nL rt ini d kc ks Post pc lv (.int x :: .ref o :: st) h sz := V_put pc hd hf (fun q => by cases q) hW.1.1 rfl rfl (Nat.le_of_ble_eq_true rfl) (kk _ (hW.sW _))
theorem V_putEG (pc : Nat) {idx : Nat} {x : Int32} (hd : decode cc pc = .ok (.putfield idx, 3)) (hf : zFp own idx 0 2 .int false) (hW : WE G h0 h o r E Q) (kk : ∀ h, WE G h0 h o r (eG' E x) Q → V l G own cc nL rt ini d kc ks Post (pc + 3) lv st h sz) : V l G own cc nL rt ini d kc ks Post pc lv (.int x :: .ref o :: st) h sz := V_put pc hd hf (fun q => by cases q) hW.1.1 rfl rfl (Nat.le_of_ble_eq_true rfl) (kk _ (hW.sG _))
theorem V_putEN (pc : Nat) {idx : Nat} {x : Int32} (n : Nat) (hx : x = nI n) (hn : n ≤ 12) (hd : decode cc pc = .ok (.putfield idx, 3)) (hf : zFp own idx 0 5 .int false) (hW : WE G h0 h o r E Q) (kk : ∀ h, WE G h0 h o r (eN' E n) Q → V l G own cc nL rt ini d kc ks Post (pc + 3) lv st h sz) : V l G own cc nL rt ini d kc ks Post pc lv (.int x :: .ref o :: st) h sz := V_put pc hd hf (fun q => by cases q) hW.1.1 rfl rfl (Nat.le_of_ble_eq_true rfl) (kk _ (hW.sN n hx hn))
end WEs
end
section
theorem up_ind {P : Nat → Prop} (N : Nat) (hs : ∀ i, i ≤ N → (∀ j, j = i + 1 → j ≤ N → P j) → P i) : ∀ i, i ≤ N → P i := by
  have key : ∀ m i, i ≤ N → N ≤ i + m → P i := by
    intro m
    induction m with
    | zero => exact fun i h1 h2 => hs i h1 (fun j hj hN => by omega)
    | succ m ih => exact fun i h1 h2 => hs i h1 (fun j hj hN => ih j hN (by omega))
  exact fun i h => key N i h (by omega)
theorem nI_inc (a : Nat) : nI a + Int32.ofInt 1 = nI (a + 1) := nI_1 a
theorem nI_lit {v : Int32} {n : Nat} (h : v.toInt = n) : v = nI n := by
  apply Int32.toInt_inj.mp
  rw [h, nI_toInt]
  have := Int32.toInt_lt v
  omega
theorem nI_sub1 {n : Nat} (h : n ≤ 1000) : (nI n - 1).toInt + 1 = n := by
  have e : (1 : Int32) = nI 1 := rfl
  rw [e, pk_sub_toInt (by omega) (by omega)]
  omega
theorem inb_sub1 {n : Nat} (h : n ≤ 1000) {w : Int32} : inb w n = true ↔ (0 ≤ w ∧ w ≤ nI n - 1) := inb_le (nI_sub1 h)
def fo (x : Int32) : Int32 := (x.toInt64 * 16807 - x.toInt64 * 16807 / 2147483647 * 2147483647).toInt32
def nmR (Q : RG) (w : Int32) : Int32 := if inb w 6 = true then Q.2.1 w.toNatClampNeg else -1
def snR (Q : RG) (w : Int32) : Int32 := if inb w 6 = true then Q.2.2 w.toNatClampNeg else 0
def rcv (n : Nat) (x : Int32) : Int32 := if x &&& 1 = 0 then (if nI n ≤ x / 2 + 1 then 0 else x / 2 + 1) else (if x / 2 ≤ 0 then nI n - 1 else x / 2 - 1)
section M14
variable {l : Launch} {G : zGT} {h h0 : hpT} {sz : Nat} {Post : Option Value → hpT → Nat → Prop} {r : Nat} {Q : RG}
set_option maxHeartbeats 4000000 in
set_option maxRecDepth 100000 in
theorem c_X5_within {v lo hi : Int32} (k1 : (lo ≤ v ∧ v ≤ hi) → Post (some (.int 1)) h sz) (k0 : ¬ (lo ≤ v ∧ v ≤ hi) → Post (some (.int 0)) h sz) : Cn l G yX5_within cX5_within 3 (some .boolean) 0 0 0 [.int v, .int lo, .int hi] h sz Post := by
  refine Cn.of RX5 false (by decide) rfl (fun q => by cases q) (Nat.le_of_ble_eq_true rfl) ?_
  refine V_iload_n 0 dX5_within_0 rfl ?_
  refine V_iload_n 1 dX5_within_1 rfl ?_
  refine V_icmp_lt 2 14 dX5_within_2 rfl (fun c_2 => ?_) (fun c_2 => ?_)
  · refine V_iconstv 14 (0) dX5_within_14 (by decide) ?_
    refine V_zret 15 dX5_within_15 (Or.inl rfl) ?_
    first | exact k0 (fun q => Int32.not_le.mpr c_2 q.1) | exact k0 (fun q => Int32.not_le.mpr c_7 q.2)
  · refine V_iload_n 5 dX5_within_5 rfl ?_
    refine V_iload_n 6 dX5_within_6 rfl ?_
    refine V_icmp_gt 7 14 dX5_within_7 rfl (fun c_7 => ?_) (fun c_7 => ?_)
    · refine V_iconstv 14 (0) dX5_within_14 (by decide) ?_
      refine V_zret 15 dX5_within_15 (Or.inl rfl) ?_
      first | exact k0 (fun q => Int32.not_le.mpr c_2 q.1) | exact k0 (fun q => Int32.not_le.mpr c_7 q.2)
    · refine V_iconstv 10 (1) dX5_within_10 (by decide) ?_
      refine V_goto 11 15 dX5_within_11 rfl ?_
      refine V_zret 15 dX5_within_15 (Or.inr rfl) ?_
      exact k1 ⟨Int32.not_lt.mp c_2, Int32.not_lt.mp c_7⟩
set_option maxHeartbeats 4000000 in
set_option maxRecDepth 100000 in
theorem c_X5_following {x : Int32} (k : Post (some (.int (fo x))) h sz) : Cn l G yX5_following cX5_following 1 (some .int) 0 0 0 [.int x] h sz Post := by
  refine Cn.of RX5 false (by decide) rfl (fun q => by cases q) (Nat.le_of_ble_eq_true rfl) ?_
  refine V_iload_n 0 dX5_following_0 rfl ?_
  refine V_i2l 1 dX5_following_1 ?_
  refine V_ldc2 2 dX5_following_2 knX5_202 ?_
  refine V_lmul 5 dX5_following_5 ?_
  refine V_ldc2 6 dX5_following_6 knX5_204 ?_
  refine V_lrem 9 dX5_following_9 (by decide) ?_
  refine V_l2i 10 dX5_following_10 ?_
  refine V_iret 11 dX5_following_11 ?_
  exact k
set_option maxHeartbeats 4000000 in
set_option maxRecDepth 100000 in
theorem c_X3_directionOf {x : Int32} (k : Post (some (.int (x &&& 1))) h sz) : Cn l G yX3_directionOf cX3_directionOf 1 (some .int) 0 0 0 [.int x] h sz Post := by
  refine Cn.of RX3 false (by decide) rfl (fun q => by cases q) (Nat.le_of_ble_eq_true rfl) ?_
  refine V_iload_n 0 dX3_directionOf_0 rfl ?_
  refine V_iconstv 1 (1) dX3_directionOf_1 (by decide) ?_
  refine V_iand 2 dX3_directionOf_2 ?_
  refine V_iret 3 dX3_directionOf_3 ?_
  exact k
set_option maxHeartbeats 4000000 in
set_option maxRecDepth 100000 in
theorem c_X3_lineFrom {x y : Int32} (k : Post (some (.int (2 * x + y))) h sz) : Cn l G yX3_lineFrom cX3_lineFrom 2 (some .int) 0 0 0 [.int x, .int y] h sz Post := by
  refine Cn.of RX3 false (by decide) rfl (fun q => by cases q) (Nat.le_of_ble_eq_true rfl) ?_
  refine V_iconstv 0 (2) dX3_lineFrom_0 (by decide) ?_
  refine V_iload_n 1 dX3_lineFrom_1 rfl ?_
  refine V_imul 2 dX3_lineFrom_2 ?_
  refine V_iload_n 3 dX3_lineFrom_3 rfl ?_
  refine V_iadd 4 dX3_lineFrom_4 ?_
  refine V_iret 5 dX3_lineFrom_5 ?_
  exact k
set_option maxHeartbeats 4000000 in
set_option maxRecDepth 100000 in
theorem c_X3_isFull (hR : RA G h r Q) (k1 : 6 ≤ Q.1 → Post (some (.int 1)) h sz) (k0 : ¬ 6 ≤ Q.1 → Post (some (.int 0)) h sz) : Cn l G yX3_isFull cX3_isFull 1 (some .boolean) 0 0 0 [.ref r] h sz Post := by
  refine Cn.of RX3 false (by decide) rfl (fun q => by cases q) (Nat.le_of_ble_eq_true rfl) ?_
  refine V_aload_n 0 dX3_isFull_0 rfl ?_
  refine V_get 1 dX3_isFull_1 fdX3_9 (by first | exact hR.1 | exact hR.2.1 | exact hR.2.2.1) rfl ?_
  refine V_bipushv 4 (6) dX3_isFull_4 (by decide) ?_
  refine V_icmp_lt 6 13 dX3_isFull_6 rfl (fun c_6 => ?_) (fun c_6 => ?_)
  · refine V_iconstv 13 (0) dX3_isFull_13 (by decide) ?_
    refine V_zret 14 dX3_isFull_14 (Or.inl rfl) ?_
    exact k0 (fun q => Int32.not_le.mpr c_6 (nI_le q (by have := hR.2.2.2; omega)))
  · refine V_iconstv 9 (1) dX3_isFull_9 (by decide) ?_
    refine V_goto 10 14 dX3_isFull_10 rfl ?_
    refine V_zret 14 dX3_isFull_14 (Or.inr rfl) ?_
    exact k1 ((nI_leI (by decide) (by have := hR.2.2.2; omega)).mp (Int32.not_lt.mp c_6))
set_option maxHeartbeats 4000000 in
set_option maxRecDepth 100000 in
theorem c_X3_hasContender (hR : RA G h r Q) {w : Int32} (k1 : inb w Q.1 = true → Post (some (.int 1)) h sz) (k0 : inb w Q.1 = false → Post (some (.int 0)) h sz) : Cn l G yX3_hasContender cX3_hasContender 2 (some .boolean) 1 0 0 [.ref r, .int w] h sz Post := by
  refine Cn.of RX3 false (by decide) rfl (fun q => by cases q) (Nat.le_of_ble_eq_true rfl) ?_
  refine V_iload_n 0 dX3_hasContender_0 rfl ?_
  refine V_iconstv 1 (0) dX3_hasContender_1 (by decide) ?_
  refine V_aload_n 2 dX3_hasContender_2 rfl ?_
  refine V_get 3 dX3_hasContender_3 fdX3_9 (by first | exact hR.1 | exact hR.2.1 | exact hR.2.2.1) rfl ?_
  refine V_iconstv 6 (1) dX3_hasContender_6 (by decide) ?_
  refine V_isub 7 dX3_hasContender_7 ?_
  refine V_is3 8 dX3_hasContender_8 ksX3_28 rfl rfl (c_X5_within (fun c_8 => ?_) (fun c_8 => ?_))
  · refine V_zret 11 dX3_hasContender_11 (Or.inr rfl) ?_
    exact k1 ((inb_sub1 (by have := hR.2.2.2; omega)).mpr c_8)
  · refine V_zret 11 dX3_hasContender_11 (Or.inl rfl) ?_
    exact k0 (Bool.eq_false_iff.mpr (fun q => c_8 ((inb_sub1 (by have := hR.2.2.2; omega)).mp q)))
set_option maxHeartbeats 4000000 in
set_option maxRecDepth 100000 in
theorem c_X3_hasLink (hR : RA G h r Q) {w : Int32} (k1 : inb w (2 * Q.1) = true → Post (some (.int 1)) h sz) (k0 : inb w (2 * Q.1) = false → Post (some (.int 0)) h sz) : Cn l G yX3_hasLink cX3_hasLink 2 (some .boolean) 1 0 0 [.ref r, .int w] h sz Post := by
  refine Cn.of RX3 false (by decide) rfl (fun q => by cases q) (Nat.le_of_ble_eq_true rfl) ?_
  refine V_iload_n 0 dX3_hasLink_0 rfl ?_
  refine V_iconstv 1 (0) dX3_hasLink_1 (by decide) ?_
  refine V_iconstv 2 (2) dX3_hasLink_2 (by decide) ?_
  refine V_aload_n 3 dX3_hasLink_3 rfl ?_
  refine V_get 4 dX3_hasLink_4 fdX3_9 (by first | exact hR.1 | exact hR.2.1 | exact hR.2.2.1) rfl ?_
  refine V_imul 7 dX3_hasLink_7 ?_
  refine V_topi (nI (2 * Q.1)) (pk_mul 2 Q.1) ?_
  refine V_iconstv 8 (1) dX3_hasLink_8 (by decide) ?_
  refine V_isub 9 dX3_hasLink_9 ?_
  refine V_is3 10 dX3_hasLink_10 ksX3_28 rfl rfl (c_X5_within (fun c_10 => ?_) (fun c_10 => ?_))
  · refine V_zret 13 dX3_hasLink_13 (Or.inr rfl) ?_
    exact k1 ((inb_sub1 (by have := hR.2.2.2; omega)).mpr c_10)
  · refine V_zret 13 dX3_hasLink_13 (Or.inl rfl) ?_
    exact k0 (Bool.eq_false_iff.mpr (fun q => c_10 ((inb_sub1 (by have := hR.2.2.2; omega)).mp q)))
set_option maxHeartbeats 4000000 in
set_option maxRecDepth 100000 in
theorem c_X3_nameOf (hR : RA G h r Q) {w : Int32} (k : Post (some (.int (nmR Q w))) h sz) : Cn l G yX3_nameOf cX3_nameOf 2 (some .int) 1 0 0 [.ref r, .int w] h sz Post := by
  refine Cn.of RX3 false (by decide) rfl (fun q => by cases q) (Nat.le_of_ble_eq_true rfl) ?_
  refine V_iload_n 0 dX3_nameOf_0 rfl ?_
  refine V_iconstv 1 (0) dX3_nameOf_1 (by decide) ?_
  refine V_iconstv 2 (5) dX3_nameOf_2 (by decide) ?_
  refine V_is3 3 dX3_nameOf_3 ksX3_28 rfl rfl (c_X5_within (fun c_3 => ?_) (fun c_3 => ?_))
  · refine V_if_eq 6 18 dX3_nameOf_6 rfl (fun q => absurd q (by decide)) (fun _ => ?_)
    refine V_aload_n 9 dX3_nameOf_9 rfl ?_
    refine V_get 10 dX3_nameOf_10 fdX3_15 (by first | exact hR.1 | exact hR.2.1 | exact hR.2.2.1) rfl ?_
    refine V_iload_n 13 dX3_nameOf_13 rfl ?_
    refine V_iald 14 dX3_nameOf_14 (by first | exact hR.1 | exact hR.2.1 | exact hR.2.2.1) (inb_in ((inb_le (by decide)).mpr c_3)) ?_
    refine V_goto 15 19 dX3_nameOf_15 rfl ?_
    refine V_iret 19 dX3_nameOf_19 ?_
    unfold nmR at k
    first | (rw [if_pos ((inb_le (by decide)).mpr c_3)] at k; exact k) | (rw [if_neg (fun q => c_3 ((inb_le (by decide)).mp q))] at k; exact k)
  · refine V_if_eq 6 18 dX3_nameOf_6 rfl (fun _ => ?_) (fun q => absurd q (by decide))
    refine V_iconstv 18 (-1) dX3_nameOf_18 (by decide) ?_
    refine V_iret 19 dX3_nameOf_19 ?_
    unfold nmR at k
    first | (rw [if_pos ((inb_le (by decide)).mpr c_3)] at k; exact k) | (rw [if_neg (fun q => c_3 ((inb_le (by decide)).mp q))] at k; exact k)
set_option maxHeartbeats 4000000 in
set_option maxRecDepth 100000 in
theorem c_X3_senseOf (hR : RA G h r Q) {w : Int32} (k : Post (some (.int (snR Q w))) h sz) : Cn l G yX3_senseOf cX3_senseOf 2 (some .int) 1 0 0 [.ref r, .int w] h sz Post := by
  refine Cn.of RX3 false (by decide) rfl (fun q => by cases q) (Nat.le_of_ble_eq_true rfl) ?_
  refine V_iload_n 0 dX3_senseOf_0 rfl ?_
  refine V_iconstv 1 (0) dX3_senseOf_1 (by decide) ?_
  refine V_iconstv 2 (5) dX3_senseOf_2 (by decide) ?_
  refine V_is3 3 dX3_senseOf_3 ksX3_28 rfl rfl (c_X5_within (fun c_3 => ?_) (fun c_3 => ?_))
  · refine V_if_eq 6 18 dX3_senseOf_6 rfl (fun q => absurd q (by decide)) (fun _ => ?_)
    refine V_aload_n 9 dX3_senseOf_9 rfl ?_
    refine V_get 10 dX3_senseOf_10 fdX3_19 (by first | exact hR.1 | exact hR.2.1 | exact hR.2.2.1) rfl ?_
    refine V_iload_n 13 dX3_senseOf_13 rfl ?_
    refine V_iald 14 dX3_senseOf_14 (by first | exact hR.1 | exact hR.2.1 | exact hR.2.2.1) (inb_in ((inb_le (by decide)).mpr c_3)) ?_
    refine V_goto 15 19 dX3_senseOf_15 rfl ?_
    refine V_iret 19 dX3_senseOf_19 ?_
    unfold snR at k
    first | (rw [if_pos ((inb_le (by decide)).mpr c_3)] at k; exact k) | (rw [if_neg (fun q => c_3 ((inb_le (by decide)).mp q))] at k; exact k)
  · refine V_if_eq 6 18 dX3_senseOf_6 rfl (fun _ => ?_) (fun q => absurd q (by decide))
    refine V_iconstv 18 (0) dX3_senseOf_18 (by decide) ?_
    refine V_iret 19 dX3_senseOf_19 ?_
    unfold snR at k
    first | (rw [if_pos ((inb_le (by decide)).mpr c_3)] at k; exact k) | (rw [if_neg (fun q => c_3 ((inb_le (by decide)).mp q))] at k; exact k)
set_option maxHeartbeats 4000000 in
set_option maxRecDepth 100000 in
theorem c_X3_receiverOf (hR : RA G h r Q) {x : Int32} (k : Post (some (.int (rcv Q.1 x))) h sz) : Cn l G yX3_receiverOf cX3_receiverOf 3 (some .int) 1 0 0 [.ref r, .int x] h sz Post := by
  refine Cn.of RX3 false (by decide) rfl (fun q => by cases q) (Nat.le_of_ble_eq_true rfl) ?_
  refine V_iload_n 0 dX3_receiverOf_0 rfl ?_
  refine V_iconstv 1 (2) dX3_receiverOf_1 (by decide) ?_
  refine V_idiv 2 dX3_receiverOf_2 (by decide) ?_
  refine V_istore_n 3 dX3_receiverOf_3 rfl rfl ?_
  refine V_iload_n 4 dX3_receiverOf_4 rfl ?_
  refine V_is1 5 dX3_receiverOf_5 ksX3_32 rfl rfl (c_X3_directionOf ?_)
  refine V_if_ne 8 29 dX3_receiverOf_8 rfl (fun c_8 => ?_) (fun c_8 => ?_)
  · refine V_iload_n 29 dX3_receiverOf_29 rfl ?_
    refine V_if_le 30 39 dX3_receiverOf_30 rfl (fun c_30 => ?_) (fun c_30 => ?_)
    · refine V_aload_n 39 dX3_receiverOf_39 rfl ?_
      refine V_get 40 dX3_receiverOf_40 fdX3_9 (by first | exact hR.1 | exact hR.2.1 | exact hR.2.2.1) rfl ?_
      refine V_iconstv 43 (1) dX3_receiverOf_43 (by decide) ?_
      refine V_isub 44 dX3_receiverOf_44 ?_
      refine V_iret 45 dX3_receiverOf_45 ?_
      unfold rcv at k
      first | (rw [if_pos c_8, if_pos c_18] at k; exact k) | (rw [if_pos c_8, if_neg c_18] at k; exact k) | (rw [if_neg c_8, if_pos c_30] at k; exact k) | (rw [if_neg c_8, if_neg c_30] at k; exact k)
    · refine V_iload_n 33 dX3_receiverOf_33 rfl ?_
      refine V_iconstv 34 (1) dX3_receiverOf_34 (by decide) ?_
      refine V_isub 35 dX3_receiverOf_35 ?_
      refine V_goto 36 45 dX3_receiverOf_36 rfl ?_
      refine V_iret 45 dX3_receiverOf_45 ?_
      unfold rcv at k
      first | (rw [if_pos c_8, if_pos c_18] at k; exact k) | (rw [if_pos c_8, if_neg c_18] at k; exact k) | (rw [if_neg c_8, if_pos c_30] at k; exact k) | (rw [if_neg c_8, if_neg c_30] at k; exact k)
  · refine V_iload_n 11 dX3_receiverOf_11 rfl ?_
    refine V_iconstv 12 (1) dX3_receiverOf_12 (by decide) ?_
    refine V_iadd 13 dX3_receiverOf_13 ?_
    refine V_aload_n 14 dX3_receiverOf_14 rfl ?_
    refine V_get 15 dX3_receiverOf_15 fdX3_9 (by first | exact hR.1 | exact hR.2.1 | exact hR.2.2.1) rfl ?_
    refine V_icmp_ge 18 27 dX3_receiverOf_18 rfl (fun c_18 => ?_) (fun c_18 => ?_)
    · refine V_iconstv 27 (0) dX3_receiverOf_27 (by decide) ?_
      refine V_iret 28 dX3_receiverOf_28 ?_
      unfold rcv at k
      first | (rw [if_pos c_8, if_pos c_18] at k; exact k) | (rw [if_pos c_8, if_neg c_18] at k; exact k) | (rw [if_neg c_8, if_pos c_30] at k; exact k) | (rw [if_neg c_8, if_neg c_30] at k; exact k)
    · refine V_iload_n 21 dX3_receiverOf_21 rfl ?_
      refine V_iconstv 22 (1) dX3_receiverOf_22 (by decide) ?_
      refine V_iadd 23 dX3_receiverOf_23 ?_
      refine V_goto 24 28 dX3_receiverOf_24 rfl ?_
      refine V_iret 28 dX3_receiverOf_28 ?_
      unfold rcv at k
      first | (rw [if_pos c_8, if_pos c_18] at k; exact k) | (rw [if_pos c_8, if_neg c_18] at k; exact k) | (rw [if_neg c_8, if_pos c_30] at k; exact k) | (rw [if_neg c_8, if_neg c_30] at k; exact k)
set_option maxHeartbeats 4000000 in
set_option maxRecDepth 100000 in
theorem lp_X3_hasName (hR : RA G h r Q) {x : Int32} (k1 : (∃ i, i < Q.1 ∧ Q.2.1 i = x) → Post (some (.int 1)) h sz) (k0 : (∀ i, i < Q.1 → ¬ Q.2.1 i = x) → Post (some (.int 0)) h sz) : ∀ i, i ≤ Q.1 → (∀ j, j < i → ¬ Q.2.1 j = x) → V l G RX3 cX3_hasName 3 (some .boolean) false 0 0 0 Post 2 [some (.ref r), some (.int x), some (.int (nI i))] [] h sz := by
  have hn := hR.2.2.2
  refine up_ind Q.1 (fun i hi ih hinv => ?_)
  refine V_iload_n 2 dX3_hasName_2 rfl ?_
  refine V_aload_n 3 dX3_hasName_3 rfl ?_
  refine V_get 4 dX3_hasName_4 fdX3_9 (by first | exact hR.1 | exact hR.2.1 | exact hR.2.2.1) rfl ?_
  refine V_icmp_ge 7 34 dX3_hasName_7 rfl (fun c_7 => ?_) (fun c_7 => ?_)
  · have e_7 : i = Q.1 := Nat.le_antisymm hi ((nI_leI (by omega) (by omega)).mp c_7)
    refine V_iconstv 34 (0) dX3_hasName_34 (by decide) ?_
    refine V_zret 35 dX3_hasName_35 (Or.inl rfl) ?_
    exact k0 (fun j hj => hinv j (by omega))
  · have e_7 : i < Q.1 := Nat.lt_of_not_le (fun q => c_7 (nI_le q (by omega)))
    refine V_iload_n 10 dX3_hasName_10 rfl ?_
    refine V_bipushv 11 (6) dX3_hasName_11 (by decide) ?_
    refine V_icmp_ge 13 34 dX3_hasName_13 rfl (fun c_13 => ?_) (fun c_13 => ?_)
    · exact absurd ((nI_leI (a := 6) (by decide) (by omega)).mp c_13) (by omega) --end
    · refine V_aload_n 16 dX3_hasName_16 rfl ?_
      refine V_get 17 dX3_hasName_17 fdX3_15 (by first | exact hR.1 | exact hR.2.1 | exact hR.2.2.1) rfl ?_
      refine V_iload_n 20 dX3_hasName_20 rfl ?_
      refine V_iald 21 dX3_hasName_21 (by first | exact hR.1 | exact hR.2.1 | exact hR.2.2.1) (vp_in_nI (by omega) (by decide)) ?_
      rw [nI_clamp (by omega)]
      refine V_iload_n 22 dX3_hasName_22 rfl ?_
      refine V_icmp_ne 23 28 dX3_hasName_23 rfl (fun c_23 => ?_) (fun c_23 => ?_)
      · have e_23 : ¬ Q.2.1 i = x := c_23
        refine V_iinc 28 (nI (i + 1)) dX3_hasName_28 rfl (nI_inc i) rfl rfl ?_
        refine V_goto 31 2 dX3_hasName_31 rfl ?_
        exact ih (i + 1) rfl (by omega) (fun j hj => by rcases Nat.lt_or_ge j i with q | q; exact hinv j q; exact (show j = i by omega) ▸ e_23)
      · have e_23 : Q.2.1 i = x := c_23
        refine V_iconstv 26 (1) dX3_hasName_26 (by decide) ?_
        refine V_zret 27 dX3_hasName_27 (Or.inr rfl) ?_
        exact k1 ⟨i, e_7, e_23⟩
set_option maxHeartbeats 4000000 in
set_option maxRecDepth 100000 in
theorem c_X3_hasName (hR : RA G h r Q) {x : Int32} (k1 : (∃ i, i < Q.1 ∧ Q.2.1 i = x) → Post (some (.int 1)) h sz) (k0 : (∀ i, i < Q.1 → ¬ Q.2.1 i = x) → Post (some (.int 0)) h sz) : Cn l G yX3_hasName cX3_hasName 3 (some .boolean) 0 0 0 [.ref r, .int x] h sz Post := by
  refine Cn.of RX3 false (by decide) rfl (fun q => by cases q) (Nat.le_of_ble_eq_true rfl) ?_
  refine V_iconstv 0 (0) dX3_hasName_0 (by decide) ?_
  refine V_istore_n 1 dX3_hasName_1 rfl rfl ?_
  exact lp_X3_hasName hR k1 k0 0 (Nat.zero_le _) (fun j hj => absurd hj (Nat.not_lt_zero j))
set_option maxHeartbeats 4000000 in
set_option maxRecDepth 100000 in
theorem lp_X3_sensesAgree (hR : RA G h r Q) (k1 : (∀ i, 1 ≤ i → i < Q.1 → Q.2.2 i = Q.2.2 0) → Post (some (.int 1)) h sz) (k0 : (∃ i, 1 ≤ i ∧ i < Q.1 ∧ ¬ Q.2.2 i = Q.2.2 0) → Post (some (.int 0)) h sz) : ∀ i, i ≤ 7 → 1 ≤ i → (∀ j, 1 ≤ j → j < i → Q.2.2 j = Q.2.2 0) → V l G RX3 cX3_sensesAgree 2 (some .boolean) false 0 0 0 Post 2 [some (.ref r), some (.int (nI i))] [] h sz := by
  have hn := hR.2.2.2
  refine up_ind 7 (fun i hi ih h1 hinv => ?_)
  refine V_iload_n 2 dX3_sensesAgree_2 rfl ?_
  refine V_aload_n 3 dX3_sensesAgree_3 rfl ?_
  refine V_get 4 dX3_sensesAgree_4 fdX3_9 (by first | exact hR.1 | exact hR.2.1 | exact hR.2.2.1) rfl ?_
  refine V_icmp_ge 7 39 dX3_sensesAgree_7 rfl (fun c_7 => ?_) (fun c_7 => ?_)
  · have e_7 : Q.1 ≤ i := (nI_leI (by omega) (by omega)).mp c_7
    refine V_iconstv 39 (1) dX3_sensesAgree_39 (by decide) ?_
    refine V_zret 40 dX3_sensesAgree_40 (Or.inr rfl) ?_
    exact k1 (fun j hj hj2 => hinv j hj (by omega))
  · have e_7 : i < Q.1 := Nat.lt_of_not_le (fun q => c_7 (nI_le q (by omega)))
    refine V_iload_n 10 dX3_sensesAgree_10 rfl ?_
    refine V_bipushv 11 (6) dX3_sensesAgree_11 (by decide) ?_
    refine V_icmp_ge 13 39 dX3_sensesAgree_13 rfl (fun c_13 => ?_) (fun c_13 => ?_)
    · exact absurd ((nI_leI (a := 6) (by decide) (by omega)).mp c_13) (by omega) --end
    · refine V_aload_n 16 dX3_sensesAgree_16 rfl ?_
      refine V_get 17 dX3_sensesAgree_17 fdX3_19 (by first | exact hR.1 | exact hR.2.1 | exact hR.2.2.1) rfl ?_
      refine V_iload_n 20 dX3_sensesAgree_20 rfl ?_
      refine V_iald 21 dX3_sensesAgree_21 (by first | exact hR.1 | exact hR.2.1 | exact hR.2.2.1) (vp_in_nI (by omega) (by decide)) ?_
      rw [nI_clamp (by omega)]
      refine V_aload_n 22 dX3_sensesAgree_22 rfl ?_
      refine V_get 23 dX3_sensesAgree_23 fdX3_19 (by first | exact hR.1 | exact hR.2.1 | exact hR.2.2.1) rfl ?_
      refine V_iconstv 26 (0) dX3_sensesAgree_26 (by decide) ?_
      refine V_iald 27 dX3_sensesAgree_27 (by first | exact hR.1 | exact hR.2.1 | exact hR.2.2.1) (vp_in_nI (n := 0) (by omega) (by decide)) ?_
      refine V_icmp_eq 28 33 dX3_sensesAgree_28 rfl (fun c_28 => ?_) (fun c_28 => ?_)
      · have e_28 : Q.2.2 i = Q.2.2 0 := c_28
        refine V_iinc 33 (nI (i + 1)) dX3_sensesAgree_33 rfl (nI_inc i) rfl rfl ?_
        refine V_goto 36 2 dX3_sensesAgree_36 rfl ?_
        exact ih (i + 1) rfl (by omega) (by omega) (fun j hj hj2 => by rcases Nat.lt_or_ge j i with q | q; exact hinv j hj q; exact (show j = i by omega) ▸ e_28)
      · have e_28 : ¬ Q.2.2 i = Q.2.2 0 := c_28
        refine V_iconstv 31 (0) dX3_sensesAgree_31 (by decide) ?_
        refine V_zret 32 dX3_sensesAgree_32 (Or.inl rfl) ?_
        exact k0 ⟨i, h1, e_7, e_28⟩
set_option maxHeartbeats 4000000 in
set_option maxRecDepth 100000 in
theorem c_X3_sensesAgree (hR : RA G h r Q) (k1 : (∀ i, 1 ≤ i → i < Q.1 → Q.2.2 i = Q.2.2 0) → Post (some (.int 1)) h sz) (k0 : (∃ i, 1 ≤ i ∧ i < Q.1 ∧ ¬ Q.2.2 i = Q.2.2 0) → Post (some (.int 0)) h sz) : Cn l G yX3_sensesAgree cX3_sensesAgree 2 (some .boolean) 0 0 0 [.ref r] h sz Post := by
  refine Cn.of RX3 false (by decide) rfl (fun q => by cases q) (Nat.le_of_ble_eq_true rfl) ?_
  refine V_iconstv 0 (1) dX3_sensesAgree_0 (by decide) ?_
  refine V_istore_n 1 dX3_sensesAgree_1 rfl rfl ?_
  exact lp_X3_sensesAgree hR k1 k0 1 (by omega) (by omega) (fun j hj hj2 => by omega)
end M14
end
section
def ctN (p : Nat → Bool) : Nat → Nat
  | 0 => 0
  | n + 1 => ctN p n + if p n = true then 1 else 0
theorem ctN_le (p : Nat → Bool) : ∀ n, ctN p n ≤ n
  | 0 => Nat.le_refl 0
  | n + 1 => by
    have := ctN_le p n
    simp only [ctN]
    split <;> omega
theorem ctN_t {p : Nat → Bool} {n : Nat} (h : p n = true) : ctN p (n + 1) = ctN p n + 1 := by simp [ctN, h]
theorem ctN_f {p : Nat → Bool} {n : Nat} (h : ¬ p n = true) : ctN p (n + 1) = ctN p n := by simp [ctN, h]
theorem ctN_cong {p q : Nat → Bool} : ∀ {n : Nat}, (∀ k, k < n → p k = q k) → ctN p n = ctN q n
  | 0, _ => rfl
  | n + 1, h => by rw [ctN, ctN, ctN_cong (fun k hk => h k (by omega)), h n (by omega)]
def fiN (p : Nat → Bool) : Nat → Nat
  | 0 => 0
  | n + 1 => if fiN p n < n then fiN p n else if p n = true then n else n + 1
theorem fiN_none {p : Nat → Bool} : ∀ {n : Nat}, (∀ j, j < n → ¬ p j = true) → fiN p n = n
  | 0, _ => rfl
  | n + 1, h => by
    have := fiN_none (p := p) (n := n) (fun j hj => h j (by omega))
    simp [fiN, this, h n (by omega)]
theorem fiN_some {p : Nat → Bool} {i : Nat} (hp : p i = true) (hb : ∀ j, j < i → ¬ p j = true) : ∀ {n : Nat}, i < n → fiN p n = i
  | 0, h => absurd h (Nat.not_lt_zero i)
  | n + 1, h => by
    rcases Nat.lt_or_ge i n with q | q
    · have := fiN_some hp hb q
      simp [fiN, this, q]
    · have hi : i = n := by omega
      subst hi
      have := fiN_none (p := p) (n := i) hb
      simp [fiN, this, hp]
theorem fiN_le (p : Nat → Bool) : ∀ n, fiN p n ≤ n
  | 0 => Nat.le_refl 0
  | n + 1 => by
    have := fiN_le p n
    simp only [fiN]
    split
    · omega
    · split <;> omega
theorem fiN_lt {p : Nat → Bool} : ∀ {n : Nat}, fiN p n < n → p (fiN p n) = true ∧ ∀ j, j < fiN p n → ¬ p j = true
  | 0, h => absurd h (Nat.not_lt_zero _)
  | n + 1, h => by
    simp only [fiN] at h ⊢
    by_cases h1 : fiN p n < n
    · rw [if_pos h1]
      exact fiN_lt h1
    · rw [if_neg h1] at h ⊢
      by_cases h2 : p n = true
      · rw [if_pos h2]
        refine ⟨h2, fun j hj hp => ?_⟩
        have h3 : ∀ m, m ≤ n → j < m → fiN p m < m := by
          intro m
          induction m with
          | zero => intro _ q; omega
          | succ m ih =>
            intro hm hjm
            simp only [fiN]
            by_cases q : j < m
            · rw [if_pos (ih (by omega) q)]
              have := ih (by omega) q
              omega
            · have : j = m := by omega
              subst this
              split
              · omega
              · first | omega | (rw [if_pos hp]; omega)
        exact h1 (h3 n (Nat.le_refl n) hj)
      · rw [if_neg h2] at h
        omega
theorem fiN_ge {p : Nat → Bool} {n : Nat} (h : ¬ fiN p n < n) : ∀ j, j < n → ¬ p j = true := by
  intro j hj hp
  have h3 : ∀ m, j < m → fiN p m < m := by
    intro m
    induction m with
    | zero => intro q; omega
    | succ m ih =>
      intro hjm
      simp only [fiN]
      by_cases q : j < m
      · rw [if_pos (ih q)]
        have := ih q
        omega
      · have : j = m := by omega
        subst this
        split
        · omega
        · first | omega | (rw [if_pos hp]; omega)
  exact h (h3 n hj)
theorem fiN_cong {p q : Nat → Bool} : ∀ {n : Nat}, (∀ k, k < n → p k = q k) → fiN p n = fiN q n
  | 0, _ => rfl
  | n + 1, h => by rw [fiN, fiN, fiN_cong (fun k hk => h k (by omega)), h n (by omega)]
def celE (E : ET) (w k : Int32) : Int32 := if inb (w * 8 + k) 48 = true then eC E (w * 8 + k).toNatClampNeg else -1
def setE (E : ET) (w k v : Int32) : ET := if inb (w * 8 + k) 48 = true then eC' E (upd (eC E) (w * 8 + k).toNatClampNeg v) else E
def lcE (E : ET) (w k : Int32) : Int32 := if inb (w * 6 + k) 72 = true then eL E (w * 6 + k).toNatClampNeg else -1
def snE (E : ET) (k : Int32) : Int32 := if inb k 8 = true then eS E k.toNatClampNeg else 0
theorem lcE_nI (E : ET) {p k : Nat} (hp : p < 12) (hk : k < 6) : lcE E (nI p) (nI k) = eL E (6 * p + k) := by
  have e : nI p * 6 + nI k = nI (6 * p + k) := by
    rw [show (6 : Int32) = nI 6 from rfl, pk_mul, nI_add]
    congr 1
    omega
  unfold lcE
  rw [e, if_pos (inb_nI (by omega) (by decide)), nI_clamp (by omega)]
theorem celE_nI (E : ET) {i k : Nat} (hi : i < 6) (hk : k < 8) : celE E (nI i) (nI k) = eC E (8 * i + k) := by
  have e : nI i * 8 + nI k = nI (8 * i + k) := by
    rw [show (8 : Int32) = nI 8 from rfl, pk_mul, nI_add]
    congr 1
    omega
  unfold celE
  rw [e, if_pos (inb_nI (by omega) (by decide)), nI_clamp (by omega)]
theorem setE_nI (E : ET) {i k : Nat} (hi : i < 6) (hk : k < 8) (v : Int32) : setE E (nI i) (nI k) v = eC' E (upd (eC E) (8 * i + k) v) := by
  have e : nI i * 8 + nI k = nI (8 * i + k) := by
    rw [show (8 : Int32) = nI 8 from rfl, pk_mul, nI_add]
    congr 1
    omega
  unfold setE
  rw [e, if_pos (inb_nI (by omega) (by decide)), nI_clamp (by omega)]
/-- how many are in a state -/
def stE (E : ET) (n : Nat) (x : Int32) : Nat := ctN (fun i => decide (eC E (8 * i) = x)) n
def hdE (E : ET) (n : Nat) : Int32 := if fiN (fun i => decide (eC E (8 * i) = 3)) n < n then nI (fiN (fun i => decide (eC E (8 * i) = 3)) n) else -1
/-- letter k lies on link x -/
def onB (E : ET) (x : Int32) (k : Nat) : Bool := decide (eL E (6 * k) = x)
def loE (E : ET) (x : Int32) : Nat := ctN (onB E x) (eN E)
def plB (E : ET) (x i : Int32) (k : Nat) : Bool := onB E x k && decide (nI (ctN (onB E x) k) = i)
def plE (E : ET) (x i : Int32) : Int32 := if fiN (plB E x i) (eN E) < eN E then nI (fiN (plB E x i) (eN E)) else -1
def bsy (E : ET) (x : Int32) : Bool := decide (fiN (onB E x) (eN E) < eN E)
def blE (E : ET) (n : Nat) : Nat := ctN (fun j => bsy E (nI j)) (2 * n)
def sndE (E : ET) (line kind number phase steps alone : Int32) : ET :=
  if eN E < 12 ∧ 1 ≤ kind ∧ kind ≤ 7 then
    eS' (eN' (eL' E (upd (upd (upd (upd (upd (upd (eL E) (6 * eN E) line) (6 * eN E + 1) kind) (6 * eN E + 2) number) (6 * eN E + 3) phase) (6 * eN E + 4) steps) (6 * eN E + 5) alone)) (eN E + 1))
      (upd (upd (eS E) kind.toNatClampNeg (eS E kind.toNatClampNeg + 1)) 0 (upd (eS E) kind.toNatClampNeg (eS E kind.toNatClampNeg + 1) 0 + 1))
  else E
def tkE (E : ET) (p : Nat) : ET := eL' (eN' (eH' E (va_cpy (eL E) (eH E) (6 * p) 0 6)) (eN E - 1)) (va_cpy (eL E) (eL E) (6 * p + 6) (6 * p) (6 * (eN E - 1 - p)))
section M15
variable {l : Launch} {G : zGT} {h h0 : hpT} {sz : Nat} {Post : Option Value → hpT → Nat → Prop} {o r : Nat} {Q : RG} {E : ET}
set_option maxHeartbeats 4000000 in
set_option maxRecDepth 100000 in
theorem c_X0_cell (hW : WE G h0 h o r E Q) {w x : Int32} (k : Post (some (.int (celE E w x))) h sz) : Cn l G yX0_cell cX0_cell 4 (some .int) 0 0 0 [.ref o, .int w, .int x] h sz Post := by
  refine Cn.of RX0 false (by decide) rfl (fun q => by cases q) (Nat.le_of_ble_eq_true rfl) ?_
  refine V_iload_n 0 dX0_cell_0 rfl ?_
  refine V_bipushv 1 (8) dX0_cell_1 (by decide) ?_
  refine V_imul 3 dX0_cell_3 ?_
  refine V_iload_n 4 dX0_cell_4 rfl ?_
  refine V_iadd 5 dX0_cell_5 ?_
  refine V_istore_n 6 dX0_cell_6 rfl rfl ?_
  refine V_iload_n 7 dX0_cell_7 rfl ?_
  refine V_if_lt 8 29 dX0_cell_8 rfl (fun c_8 => ?_) (fun c_8 => ?_)
  · refine V_iconstv 29 (-1) dX0_cell_29 (by decide) ?_
    refine V_iret 30 dX0_cell_30 ?_
    unfold celE at k
    first | (rw [if_pos (inb_of (N := 48) (by decide) c_8 c_17)] at k; exact k) | (rw [inb_f1 c_8] at k; exact k) | (rw [inb_f2 (N := 48) (by decide) c_17] at k; exact k)
  · refine V_iload_n 11 dX0_cell_11 rfl ?_
    refine V_aload_n 12 dX0_cell_12 rfl ?_
    refine V_get 13 dX0_cell_13 fdX0_18 (by first | exact hW.1.1 | exact hW.1.2.1 | exact hW.1.2.2.1 | exact hW.1.2.2.2.1 | exact hW.1.2.2.2.2.1 | exact hW.2.1.1 | exact hW.2.1.2.1 | exact hW.2.1.2.2.1) rfl ?_
    refine V_alenI 16 48 dX0_cell_16 (by first | exact hW.1.1 | exact hW.1.2.1 | exact hW.1.2.2.1 | exact hW.1.2.2.2.1 | exact hW.1.2.2.2.2.1 | exact hW.2.1.1 | exact hW.2.1.2.1 | exact hW.2.1.2.2.1) rfl ?_
    refine V_icmp_ge 17 29 dX0_cell_17 rfl (fun c_17 => ?_) (fun c_17 => ?_)
    · refine V_iconstv 29 (-1) dX0_cell_29 (by decide) ?_
      refine V_iret 30 dX0_cell_30 ?_
      unfold celE at k
      first | (rw [if_pos (inb_of (N := 48) (by decide) c_8 c_17)] at k; exact k) | (rw [inb_f1 c_8] at k; exact k) | (rw [inb_f2 (N := 48) (by decide) c_17] at k; exact k)
    · refine V_aload_n 20 dX0_cell_20 rfl ?_
      refine V_get 21 dX0_cell_21 fdX0_18 (by first | exact hW.1.1 | exact hW.1.2.1 | exact hW.1.2.2.1 | exact hW.1.2.2.2.1 | exact hW.1.2.2.2.2.1 | exact hW.2.1.1 | exact hW.2.1.2.1 | exact hW.2.1.2.2.1) rfl ?_
      refine V_iload_n 24 dX0_cell_24 rfl ?_
      refine V_iald 25 dX0_cell_25 (by first | exact hW.1.1 | exact hW.1.2.1 | exact hW.1.2.2.1 | exact hW.1.2.2.2.1 | exact hW.1.2.2.2.2.1 | exact hW.2.1.1 | exact hW.2.1.2.1 | exact hW.2.1.2.2.1) (inb_in (inb_of (by decide) c_8 c_17)) ?_
      refine V_goto 26 30 dX0_cell_26 rfl ?_
      refine V_iret 30 dX0_cell_30 ?_
      unfold celE at k
      first | (rw [if_pos (inb_of (N := 48) (by decide) c_8 c_17)] at k; exact k) | (rw [inb_f1 c_8] at k; exact k) | (rw [inb_f2 (N := 48) (by decide) c_17] at k; exact k)
set_option maxHeartbeats 4000000 in
set_option maxRecDepth 100000 in
theorem c_X0_setCell (hW : WE G h0 h o r E Q) {w x v : Int32} (k : ∀ h, WE G h0 h o r (setE E w x v) Q → Post none h sz) : Cn l G yX0_setCell cX0_setCell 5 none 0 0 0 [.ref o, .int w, .int x, .int v] h sz Post := by
  refine Cn.of RX0 false (by decide) rfl (fun q => by cases q) (Nat.le_of_ble_eq_true rfl) ?_
  refine V_iload_n 0 dX0_setCell_0 rfl ?_
  refine V_bipushv 1 (8) dX0_setCell_1 (by decide) ?_
  refine V_imul 3 dX0_setCell_3 ?_
  refine V_iload_n 4 dX0_setCell_4 rfl ?_
  refine V_iadd 5 dX0_setCell_5 ?_
  refine V_istore 6 dX0_setCell_6 rfl rfl ?_
  refine V_iload 8 dX0_setCell_8 rfl ?_
  refine V_if_lt 10 31 dX0_setCell_10 rfl (fun c_10 => ?_) (fun c_10 => ?_)
  · refine V_vret 31 dX0_setCell_31 ?_
    unfold setE at k
    first | (rw [if_pos (inb_of (N := 48) (by decide) c_10 c_20)] at k; exact k _ hW) | (rw [inb_f1 c_10] at k; exact k _ hW) | (rw [inb_f2 (N := 48) (by decide) c_20] at k; exact k _ hW)
  · refine V_iload 13 dX0_setCell_13 rfl ?_
    refine V_aload_n 15 dX0_setCell_15 rfl ?_
    refine V_get 16 dX0_setCell_16 fdX0_18 (by first | exact hW.1.1 | exact hW.1.2.1 | exact hW.1.2.2.1 | exact hW.1.2.2.2.1 | exact hW.1.2.2.2.2.1 | exact hW.2.1.1 | exact hW.2.1.2.1 | exact hW.2.1.2.2.1) rfl ?_
    refine V_alenI 19 48 dX0_setCell_19 (by first | exact hW.1.1 | exact hW.1.2.1 | exact hW.1.2.2.1 | exact hW.1.2.2.2.1 | exact hW.1.2.2.2.2.1 | exact hW.2.1.1 | exact hW.2.1.2.1 | exact hW.2.1.2.2.1) rfl ?_
    refine V_icmp_ge 20 31 dX0_setCell_20 rfl (fun c_20 => ?_) (fun c_20 => ?_)
    · refine V_vret 31 dX0_setCell_31 ?_
      unfold setE at k
      first | (rw [if_pos (inb_of (N := 48) (by decide) c_10 c_20)] at k; exact k _ hW) | (rw [inb_f1 c_10] at k; exact k _ hW) | (rw [inb_f2 (N := 48) (by decide) c_20] at k; exact k _ hW)
    · refine V_aload_n 23 dX0_setCell_23 rfl ?_
      refine V_get 24 dX0_setCell_24 fdX0_18 (by first | exact hW.1.1 | exact hW.1.2.1 | exact hW.1.2.2.1 | exact hW.1.2.2.2.1 | exact hW.1.2.2.2.2.1 | exact hW.2.1.1 | exact hW.2.1.2.1 | exact hW.2.1.2.2.1) rfl ?_
      refine V_iload 27 dX0_setCell_27 rfl ?_
      refine V_iload_n 29 dX0_setCell_29 rfl ?_
      refine V_iastC 30 dX0_setCell_30 hW (inb_in (inb_of (by decide) c_10 c_20)) (fun h hW => ?_)
      refine V_vret 31 dX0_setCell_31 ?_
      unfold setE at k
      first | (rw [if_pos (inb_of (N := 48) (by decide) c_10 c_20)] at k; exact k _ hW) | (rw [inb_f1 c_10] at k; exact k _ hW) | (rw [inb_f2 (N := 48) (by decide) c_20] at k; exact k _ hW)
set_option maxHeartbeats 4000000 in
set_option maxRecDepth 100000 in
theorem c_X0_letterCell (hW : WE G h0 h o r E Q) {w x : Int32} (k : Post (some (.int (lcE E w x))) h sz) : Cn l G yX0_letterCell cX0_letterCell 4 (some .int) 0 0 0 [.ref o, .int w, .int x] h sz Post := by
  refine Cn.of RX0 false (by decide) rfl (fun q => by cases q) (Nat.le_of_ble_eq_true rfl) ?_
  refine V_iload_n 0 dX0_letterCell_0 rfl ?_
  refine V_bipushv 1 (6) dX0_letterCell_1 (by decide) ?_
  refine V_imul 3 dX0_letterCell_3 ?_
  refine V_iload_n 4 dX0_letterCell_4 rfl ?_
  refine V_iadd 5 dX0_letterCell_5 ?_
  refine V_istore_n 6 dX0_letterCell_6 rfl rfl ?_
  refine V_iload_n 7 dX0_letterCell_7 rfl ?_
  refine V_if_lt 8 29 dX0_letterCell_8 rfl (fun c_8 => ?_) (fun c_8 => ?_)
  · refine V_iconstv 29 (-1) dX0_letterCell_29 (by decide) ?_
    refine V_iret 30 dX0_letterCell_30 ?_
    unfold lcE at k
    first | (rw [if_pos (inb_of (N := 72) (by decide) c_8 c_17)] at k; exact k) | (rw [inb_f1 c_8] at k; exact k) | (rw [inb_f2 (N := 72) (by decide) c_17] at k; exact k)
  · refine V_iload_n 11 dX0_letterCell_11 rfl ?_
    refine V_aload_n 12 dX0_letterCell_12 rfl ?_
    refine V_get 13 dX0_letterCell_13 fdX0_22 (by first | exact hW.1.1 | exact hW.1.2.1 | exact hW.1.2.2.1 | exact hW.1.2.2.2.1 | exact hW.1.2.2.2.2.1 | exact hW.2.1.1 | exact hW.2.1.2.1 | exact hW.2.1.2.2.1) rfl ?_
    refine V_alenI 16 72 dX0_letterCell_16 (by first | exact hW.1.1 | exact hW.1.2.1 | exact hW.1.2.2.1 | exact hW.1.2.2.2.1 | exact hW.1.2.2.2.2.1 | exact hW.2.1.1 | exact hW.2.1.2.1 | exact hW.2.1.2.2.1) rfl ?_
    refine V_icmp_ge 17 29 dX0_letterCell_17 rfl (fun c_17 => ?_) (fun c_17 => ?_)
    · refine V_iconstv 29 (-1) dX0_letterCell_29 (by decide) ?_
      refine V_iret 30 dX0_letterCell_30 ?_
      unfold lcE at k
      first | (rw [if_pos (inb_of (N := 72) (by decide) c_8 c_17)] at k; exact k) | (rw [inb_f1 c_8] at k; exact k) | (rw [inb_f2 (N := 72) (by decide) c_17] at k; exact k)
    · refine V_aload_n 20 dX0_letterCell_20 rfl ?_
      refine V_get 21 dX0_letterCell_21 fdX0_22 (by first | exact hW.1.1 | exact hW.1.2.1 | exact hW.1.2.2.1 | exact hW.1.2.2.2.1 | exact hW.1.2.2.2.2.1 | exact hW.2.1.1 | exact hW.2.1.2.1 | exact hW.2.1.2.2.1) rfl ?_
      refine V_iload_n 24 dX0_letterCell_24 rfl ?_
      refine V_iald 25 dX0_letterCell_25 (by first | exact hW.1.1 | exact hW.1.2.1 | exact hW.1.2.2.1 | exact hW.1.2.2.2.1 | exact hW.1.2.2.2.2.1 | exact hW.2.1.1 | exact hW.2.1.2.1 | exact hW.2.1.2.2.1) (inb_in (inb_of (by decide) c_8 c_17)) ?_
      refine V_goto 26 30 dX0_letterCell_26 rfl ?_
      refine V_iret 30 dX0_letterCell_30 ?_
      unfold lcE at k
      first | (rw [if_pos (inb_of (N := 72) (by decide) c_8 c_17)] at k; exact k) | (rw [inb_f1 c_8] at k; exact k) | (rw [inb_f2 (N := 72) (by decide) c_17] at k; exact k)
set_option maxHeartbeats 4000000 in
set_option maxRecDepth 100000 in
theorem c_X0_sentOf (hW : WE G h0 h o r E Q) {w : Int32} (k : Post (some (.int (snE E w))) h sz) : Cn l G yX0_sentOf cX0_sentOf 2 (some .int) 1 0 0 [.ref o, .int w] h sz Post := by
  refine Cn.of RX0 false (by decide) rfl (fun q => by cases q) (Nat.le_of_ble_eq_true rfl) ?_
  refine V_iload_n 0 dX0_sentOf_0 rfl ?_
  refine V_iconstv 1 (0) dX0_sentOf_1 (by decide) ?_
  refine V_bipushv 2 (7) dX0_sentOf_2 (by decide) ?_
  refine V_is3 4 dX0_sentOf_4 ksX0_56 rfl rfl (c_X5_within (fun c_4 => ?_) (fun c_4 => ?_))
  · refine V_if_eq 7 19 dX0_sentOf_7 rfl (fun q => absurd q (by decide)) (fun _ => ?_)
    refine V_aload_n 10 dX0_sentOf_10 rfl ?_
    refine V_get 11 dX0_sentOf_11 fdX0_28 (by first | exact hW.1.1 | exact hW.1.2.1 | exact hW.1.2.2.1 | exact hW.1.2.2.2.1 | exact hW.1.2.2.2.2.1 | exact hW.2.1.1 | exact hW.2.1.2.1 | exact hW.2.1.2.2.1) rfl ?_
    refine V_iload_n 14 dX0_sentOf_14 rfl ?_
    refine V_iald 15 dX0_sentOf_15 (by first | exact hW.1.1 | exact hW.1.2.1 | exact hW.1.2.2.1 | exact hW.1.2.2.2.1 | exact hW.1.2.2.2.2.1 | exact hW.2.1.1 | exact hW.2.1.2.1 | exact hW.2.1.2.2.1) (inb_in ((inb_le (by decide)).mpr c_4)) ?_
    refine V_goto 16 20 dX0_sentOf_16 rfl ?_
    refine V_iret 20 dX0_sentOf_20 ?_
    unfold snE at k
    first | (rw [if_pos ((inb_le (by decide)).mpr c_4)] at k; exact k) | (rw [if_neg (fun q => c_4 ((inb_le (by decide)).mp q))] at k; exact k)
  · refine V_if_eq 7 19 dX0_sentOf_7 rfl (fun _ => ?_) (fun q => absurd q (by decide))
    refine V_iconstv 19 (0) dX0_sentOf_19 (by decide) ?_
    refine V_iret 20 dX0_sentOf_20 ?_
    unfold snE at k
    first | (rw [if_pos ((inb_le (by decide)).mpr c_4)] at k; exact k) | (rw [if_neg (fun q => c_4 ((inb_le (by decide)).mp q))] at k; exact k)
set_option maxHeartbeats 4000000 in
set_option maxRecDepth 100000 in
theorem c_X0_isBegun (hW : WE G h0 h o r E Q) (k1 : ¬ eW E = 0 → Post (some (.int 1)) h sz) (k0 : eW E = 0 → Post (some (.int 0)) h sz) : Cn l G yX0_isBegun cX0_isBegun 1 (some .boolean) 0 0 0 [.ref o] h sz Post := by
  refine Cn.of RX0 false (by decide) rfl (fun q => by cases q) (Nat.le_of_ble_eq_true rfl) ?_
  refine V_aload_n 0 dX0_isBegun_0 rfl ?_
  refine V_get 1 dX0_isBegun_1 fdX0_9 (by first | exact hW.1.1 | exact hW.1.2.1 | exact hW.1.2.2.1 | exact hW.1.2.2.2.1 | exact hW.1.2.2.2.2.1 | exact hW.2.1.1 | exact hW.2.1.2.1 | exact hW.2.1.2.2.1) rfl ?_
  refine V_if_eq 4 11 dX0_isBegun_4 rfl (fun c_4 => ?_) (fun c_4 => ?_)
  · refine V_iconstv 11 (0) dX0_isBegun_11 (by decide) ?_
    refine V_zret 12 dX0_isBegun_12 (Or.inl rfl) ?_
    exact k0 c_4
  · refine V_iconstv 7 (1) dX0_isBegun_7 (by decide) ?_
    refine V_goto 8 12 dX0_isBegun_8 rfl ?_
    refine V_zret 12 dX0_isBegun_12 (Or.inr rfl) ?_
    exact k1 c_4
set_option maxHeartbeats 4000000 in
set_option maxRecDepth 100000 in
theorem lp_X0_inState (hW : WE G h0 h o r E Q) {x : Int32} (n : Nat) (hn : n ≤ 6) (k : Post (some (.int (nI (stE E n x)))) h sz) : ∀ i, i ≤ n → V l G RX0 cX0_inState 5 (some .int) false 1 0 0 Post 24 [some (.ref o), some (.int x), some (.int (nI (stE E i x))), some (.int (nI n)), some (.int (nI i))] [] h sz := by
  refine up_ind n (fun i hi ih => ?_)
  refine V_iload 24 dX0_inState_24 rfl ?_
  refine V_iload_n 26 dX0_inState_26 rfl ?_
  refine V_icmp_ge 27 55 dX0_inState_27 rfl (fun c_27 => ?_) (fun c_27 => ?_)
  · have e_27 : i = n := Nat.le_antisymm hi ((nI_leI (by omega) (by omega)).mp c_27)
    subst e_27
    refine V_iload_n 55 dX0_inState_55 rfl ?_
    refine V_iret 56 dX0_inState_56 ?_
    exact k
  · have e_27 : i < n := Nat.lt_of_not_le (fun q => c_27 (nI_le q (by omega)))
    refine V_iload_n 30 dX0_inState_30 rfl ?_
    refine V_aload_n 31 dX0_inState_31 rfl ?_
    refine V_iload 32 dX0_inState_32 rfl ?_
    refine V_iconstv 34 (0) dX0_inState_34 (by decide) ?_
    refine V_iv2 35 dX0_inState_35 kvX0_67 rfl (by first | exact hW.1.1 | exact hW.1.2.1 | exact hW.1.2.2.1 | exact hW.1.2.2.2.1 | exact hW.1.2.2.2.2.1 | exact hW.2.1.1 | exact hW.2.1.2.1 | exact hW.2.1.2.2.1) rfl rfl (c_X0_cell hW ?_)
    refine V_topi (eC E (8 * i)) (celE_nI E (k := 0) (by omega) (by omega)) ?_
    refine V_iload_n 38 dX0_inState_38 rfl ?_
    refine V_icmp_ne 39 46 dX0_inState_39 rfl (fun c_39 => ?_) (fun c_39 => ?_)
    · have e_39 : nI (stE E i x) + 0 = nI (stE E (i + 1) x) := by rw [show (0 : Int32) = nI 0 from rfl, nI_add]; unfold stE; rw [ctN_f (by simpa using c_39)]; rfl
      refine V_iconstv 46 (0) dX0_inState_46 (by decide) ?_
      refine V_iadd 47 dX0_inState_47 ?_
      refine V_topi _ e_39 ?_
      refine V_istore_n 48 dX0_inState_48 rfl rfl ?_
      refine V_iinc 49 (nI (i + 1)) dX0_inState_49 rfl (nI_inc i) rfl rfl ?_
      refine V_goto 52 24 dX0_inState_52 rfl ?_
      exact ih (i + 1) rfl (by omega)
    · have e_39 : nI (stE E i x) + 1 = nI (stE E (i + 1) x) := by rw [nI_1]; unfold stE; rw [ctN_t (by simpa using c_39)]
      refine V_iconstv 42 (1) dX0_inState_42 (by decide) ?_
      refine V_goto 43 47 dX0_inState_43 rfl ?_
      refine V_iadd 47 dX0_inState_47 ?_
      refine V_topi _ e_39 ?_
      refine V_istore_n 48 dX0_inState_48 rfl rfl ?_
      refine V_iinc 49 (nI (i + 1)) dX0_inState_49 rfl (nI_inc i) rfl rfl ?_
      refine V_goto 52 24 dX0_inState_52 rfl ?_
      exact ih (i + 1) rfl (by omega)
set_option maxHeartbeats 4000000 in
set_option maxRecDepth 100000 in
theorem c_X0_inState (hW : WE G h0 h o r E Q) {x : Int32} (k : Post (some (.int (nI (stE E (if eW E = 0 then 0 else Q.1) x)))) h sz) : Cn l G yX0_inState cX0_inState 5 (some .int) 1 0 0 [.ref o, .int x] h sz Post := by
  refine Cn.of RX0 false (by decide) rfl (fun q => by cases q) (Nat.le_of_ble_eq_true rfl) ?_
  refine V_iconstv 0 (0) dX0_inState_0 (by decide) ?_
  refine V_istore_n 1 dX0_inState_1 rfl rfl ?_
  refine V_aload_n 2 dX0_inState_2 rfl ?_
  refine V_iv0 3 dX0_inState_3 kvX0_60 rfl (by first | exact hW.1.1 | exact hW.1.2.1 | exact hW.1.2.2.1 | exact hW.1.2.2.2.1 | exact hW.1.2.2.2.2.1 | exact hW.2.1.1 | exact hW.2.1.2.1 | exact hW.2.1.2.2.1) rfl rfl (c_X0_isBegun hW (fun c_3 => ?_) (fun c_3 => ?_))
  · refine V_if_eq 6 19 dX0_inState_6 rfl (fun q => absurd q (by decide)) (fun _ => ?_)
    refine V_aload_n 9 dX0_inState_9 rfl ?_
    refine V_get 10 dX0_inState_10 fdX0_34 (by first | exact hW.1.1 | exact hW.1.2.1 | exact hW.1.2.2.1 | exact hW.1.2.2.2.1 | exact hW.1.2.2.2.2.1 | exact hW.2.1.1 | exact hW.2.1.2.1 | exact hW.2.1.2.2.1) rfl ?_
    refine V_get 13 dX0_inState_13 fdX0_64 (by first | exact hW.1.1 | exact hW.1.2.1 | exact hW.1.2.2.1 | exact hW.1.2.2.2.1 | exact hW.1.2.2.2.2.1 | exact hW.2.1.1 | exact hW.2.1.2.1 | exact hW.2.1.2.2.1) rfl ?_
    refine V_goto 16 20 dX0_inState_16 rfl ?_
    refine V_istore_n 20 dX0_inState_20 rfl rfl ?_
    refine V_iconstv 21 (0) dX0_inState_21 (by decide) ?_
    refine V_istore 22 dX0_inState_22 rfl rfl ?_
    have hn := hW.2.1.2.2.2
    first | (rw [if_pos c_3] at k; exact lp_X0_inState hW 0 (by omega) k 0 (Nat.zero_le _)) | (rw [if_neg c_3] at k; exact lp_X0_inState hW Q.1 hn k 0 (Nat.zero_le _))
  · refine V_if_eq 6 19 dX0_inState_6 rfl (fun _ => ?_) (fun q => absurd q (by decide))
    refine V_iconstv 19 (0) dX0_inState_19 (by decide) ?_
    refine V_istore_n 20 dX0_inState_20 rfl rfl ?_
    refine V_iconstv 21 (0) dX0_inState_21 (by decide) ?_
    refine V_istore 22 dX0_inState_22 rfl rfl ?_
    have hn := hW.2.1.2.2.2
    first | (rw [if_pos c_3] at k; exact lp_X0_inState hW 0 (by omega) k 0 (Nat.zero_le _)) | (rw [if_neg c_3] at k; exact lp_X0_inState hW Q.1 hn k 0 (Nat.zero_le _))
set_option maxHeartbeats 4000000 in
set_option maxRecDepth 100000 in
theorem lp_X0_head (hW : WE G h0 h o r E Q) (k : Post (some (.int (hdE E Q.1))) h sz) : ∀ i, i ≤ Q.1 → (∀ j, j < i → ¬ decide (eC E (8 * j) = 3) = true) → V l G RX0 cX0_head 2 (some .int) false 1 0 0 Post 2 [some (.ref o), some (.int (nI i))] [] h sz := by
  have hn := hW.2.1.2.2.2
  refine up_ind Q.1 (fun i hi ih hinv => ?_)
  refine V_iload_n 2 dX0_head_2 rfl ?_
  refine V_aload_n 3 dX0_head_3 rfl ?_
  refine V_get 4 dX0_head_4 fdX0_34 (by first | exact hW.1.1 | exact hW.1.2.1 | exact hW.1.2.2.1 | exact hW.1.2.2.2.1 | exact hW.1.2.2.2.2.1 | exact hW.2.1.1 | exact hW.2.1.2.1 | exact hW.2.1.2.2.1) rfl ?_
  refine V_get 7 dX0_head_7 fdX0_64 (by first | exact hW.1.1 | exact hW.1.2.1 | exact hW.1.2.2.1 | exact hW.1.2.2.2.1 | exact hW.1.2.2.2.2.1 | exact hW.2.1.1 | exact hW.2.1.2.1 | exact hW.2.1.2.2.1) rfl ?_
  refine V_icmp_ge 10 31 dX0_head_10 rfl (fun c_10 => ?_) (fun c_10 => ?_)
  · have e_10 : i = Q.1 := Nat.le_antisymm hi ((nI_leI (by omega) (by omega)).mp c_10)
    refine V_iconstv 31 (-1) dX0_head_31 (by decide) ?_
    refine V_iret 32 dX0_head_32 ?_
    unfold hdE at k
    rw [fiN_none (fun j hj => hinv j (by omega)), if_neg (by omega)] at k
    exact k
  · have e_10 : i < Q.1 := Nat.lt_of_not_le (fun q => c_10 (nI_le q (by omega)))
    refine V_aload_n 13 dX0_head_13 rfl ?_
    refine V_iload_n 14 dX0_head_14 rfl ?_
    refine V_iconstv 15 (0) dX0_head_15 (by decide) ?_
    refine V_iv2 16 dX0_head_16 kvX0_67 rfl (by first | exact hW.1.1 | exact hW.1.2.1 | exact hW.1.2.2.1 | exact hW.1.2.2.2.1 | exact hW.1.2.2.2.2.1 | exact hW.2.1.1 | exact hW.2.1.2.1 | exact hW.2.1.2.2.1) rfl rfl (c_X0_cell hW ?_)
    refine V_topi (eC E (8 * i)) (celE_nI E (k := 0) (by omega) (by omega)) ?_
    refine V_iconstv 19 (3) dX0_head_19 (by decide) ?_
    refine V_icmp_ne 20 25 dX0_head_20 rfl (fun c_20 => ?_) (fun c_20 => ?_)
    · refine V_iinc 25 (nI (i + 1)) dX0_head_25 rfl (nI_inc i) rfl rfl ?_
      refine V_goto 28 2 dX0_head_28 rfl ?_
      exact ih (i + 1) rfl (by omega) (fun j hj => by rcases Nat.lt_or_ge j i with q | q; exact hinv j q; exact (show j = i by omega) ▸ (by simpa using c_20))
    · refine V_iload_n 23 dX0_head_23 rfl ?_
      refine V_iret 24 dX0_head_24 ?_
      unfold hdE at k
      rw [fiN_some (i := i) (by simpa using c_20) hinv e_10, if_pos e_10] at k
      exact k
set_option maxHeartbeats 4000000 in
set_option maxRecDepth 100000 in
theorem c_X0_head (hW : WE G h0 h o r E Q) (k : Post (some (.int (hdE E Q.1))) h sz) : Cn l G yX0_head cX0_head 2 (some .int) 1 0 0 [.ref o] h sz Post := by
  refine Cn.of RX0 false (by decide) rfl (fun q => by cases q) (Nat.le_of_ble_eq_true rfl) ?_
  refine V_iconstv 0 (0) dX0_head_0 (by decide) ?_
  refine V_istore_n 1 dX0_head_1 rfl rfl ?_
  exact lp_X0_head hW k 0 (Nat.zero_le _) (fun j hj => absurd hj (Nat.not_lt_zero j))
set_option maxHeartbeats 4000000 in
set_option maxRecDepth 100000 in
theorem lp_X0_lettersOn (hW : WE G h0 h o r E Q) {x : Int32} (k : Post (some (.int (nI (loE E x)))) h sz) : ∀ i, i ≤ eN E → V l G RX0 cX0_lettersOn 4 (some .int) false 1 0 0 Post 4 [some (.ref o), some (.int x), some (.int (nI (ctN (onB E x) i))), some (.int (nI i))] [] h sz := by
  have hn := hW.1.2.2.2.2.2
  refine up_ind (eN E) (fun i hi ih => ?_)
  refine V_iload_n 4 dX0_lettersOn_4 rfl ?_
  refine V_aload_n 5 dX0_lettersOn_5 rfl ?_
  refine V_get 6 dX0_lettersOn_6 fdX0_25 (by first | exact hW.1.1 | exact hW.1.2.1 | exact hW.1.2.2.1 | exact hW.1.2.2.2.1 | exact hW.1.2.2.2.2.1 | exact hW.2.1.1 | exact hW.2.1.2.1 | exact hW.2.1.2.2.1) rfl ?_
  refine V_icmp_ge 9 36 dX0_lettersOn_9 rfl (fun c_9 => ?_) (fun c_9 => ?_)
  · have e_9 : i = eN E := Nat.le_antisymm hi ((nI_leI (by omega) (by omega)).mp c_9)
    subst e_9
    refine V_iload_n 36 dX0_lettersOn_36 rfl ?_
    refine V_iret 37 dX0_lettersOn_37 ?_
    exact k
  · have e_9 : i < eN E := Nat.lt_of_not_le (fun q => c_9 (nI_le q (by omega)))
    refine V_iload_n 12 dX0_lettersOn_12 rfl ?_
    refine V_aload_n 13 dX0_lettersOn_13 rfl ?_
    refine V_iload_n 14 dX0_lettersOn_14 rfl ?_
    refine V_iconstv 15 (0) dX0_lettersOn_15 (by decide) ?_
    refine V_iv2 16 dX0_lettersOn_16 kvX0_71 rfl (by first | exact hW.1.1 | exact hW.1.2.1 | exact hW.1.2.2.1 | exact hW.1.2.2.2.1 | exact hW.1.2.2.2.2.1 | exact hW.2.1.1 | exact hW.2.1.2.1 | exact hW.2.1.2.2.1) rfl rfl (c_X0_letterCell hW ?_)
    refine V_topi (eL E (6 * i)) (lcE_nI E (k := 0) (by omega) (by omega)) ?_
    refine V_iload_n 19 dX0_lettersOn_19 rfl ?_
    refine V_icmp_ne 20 27 dX0_lettersOn_20 rfl (fun c_20 => ?_) (fun c_20 => ?_)
    · have e_20 : nI (ctN (onB E x) i) + 0 = nI (ctN (onB E x) (i + 1)) := by rw [show (0 : Int32) = nI 0 from rfl, nI_add, ctN_f (by simpa [onB] using c_20)]; rfl
      refine V_iconstv 27 (0) dX0_lettersOn_27 (by decide) ?_
      refine V_iadd 28 dX0_lettersOn_28 ?_
      refine V_topi _ e_20 ?_
      refine V_istore_n 29 dX0_lettersOn_29 rfl rfl ?_
      refine V_iinc 30 (nI (i + 1)) dX0_lettersOn_30 rfl (nI_inc i) rfl rfl ?_
      refine V_goto 33 4 dX0_lettersOn_33 rfl ?_
      exact ih (i + 1) rfl (by omega)
    · have e_20 : nI (ctN (onB E x) i) + 1 = nI (ctN (onB E x) (i + 1)) := by rw [nI_1, ctN_t (by simpa [onB] using c_20)]
      refine V_iconstv 23 (1) dX0_lettersOn_23 (by decide) ?_
      refine V_goto 24 28 dX0_lettersOn_24 rfl ?_
      refine V_iadd 28 dX0_lettersOn_28 ?_
      refine V_topi _ e_20 ?_
      refine V_istore_n 29 dX0_lettersOn_29 rfl rfl ?_
      refine V_iinc 30 (nI (i + 1)) dX0_lettersOn_30 rfl (nI_inc i) rfl rfl ?_
      refine V_goto 33 4 dX0_lettersOn_33 rfl ?_
      exact ih (i + 1) rfl (by omega)
set_option maxHeartbeats 4000000 in
set_option maxRecDepth 100000 in
theorem c_X0_lettersOn (hW : WE G h0 h o r E Q) {x : Int32} (k : Post (some (.int (nI (loE E x)))) h sz) : Cn l G yX0_lettersOn cX0_lettersOn 4 (some .int) 1 0 0 [.ref o, .int x] h sz Post := by
  refine Cn.of RX0 false (by decide) rfl (fun q => by cases q) (Nat.le_of_ble_eq_true rfl) ?_
  refine V_iconstv 0 (0) dX0_lettersOn_0 (by decide) ?_
  refine V_istore_n 1 dX0_lettersOn_1 rfl rfl ?_
  refine V_iconstv 2 (0) dX0_lettersOn_2 (by decide) ?_
  refine V_istore_n 3 dX0_lettersOn_3 rfl rfl ?_
  exact lp_X0_lettersOn hW k 0 (Nat.zero_le _)
set_option maxHeartbeats 4000000 in
set_option maxRecDepth 100000 in
theorem lp_X0_placeOf (hW : WE G h0 h o r E Q) {x z : Int32} (k : Post (some (.int (plE E x z))) h sz) : ∀ i, i ≤ eN E → (∀ j, j < i → ¬ plB E x z j = true) → V l G RX0 cX0_placeOf 5 (some .int) false 1 0 0 Post 5 [some (.ref o), some (.int x), some (.int z), some (.int (nI (ctN (onB E x) i))), some (.int (nI i))] [] h sz := by
  have hn := hW.1.2.2.2.2.2
  refine up_ind (eN E) (fun i hi ih hinv => ?_)
  refine V_iload 5 dX0_placeOf_5 rfl ?_
  refine V_aload_n 7 dX0_placeOf_7 rfl ?_
  refine V_get 8 dX0_placeOf_8 fdX0_25 (by first | exact hW.1.1 | exact hW.1.2.1 | exact hW.1.2.2.1 | exact hW.1.2.2.2.1 | exact hW.1.2.2.2.2.1 | exact hW.2.1.1 | exact hW.2.1.2.1 | exact hW.2.1.2.2.1) rfl ?_
  refine V_icmp_ge 11 42 dX0_placeOf_11 rfl (fun c_11 => ?_) (fun c_11 => ?_)
  · have e_11 : i = eN E := Nat.le_antisymm hi ((nI_leI (by omega) (by omega)).mp c_11)
    refine V_iconstv 42 (-1) dX0_placeOf_42 (by decide) ?_
    refine V_iret 43 dX0_placeOf_43 ?_
    unfold plE at k
    rw [fiN_none (fun j hj => hinv j (by omega)), if_neg (by omega)] at k
    exact k
  · have e_11 : i < eN E := Nat.lt_of_not_le (fun q => c_11 (nI_le q (by omega)))
    refine V_aload_n 14 dX0_placeOf_14 rfl ?_
    refine V_iload 15 dX0_placeOf_15 rfl ?_
    refine V_iconstv 17 (0) dX0_placeOf_17 (by decide) ?_
    refine V_iv2 18 dX0_placeOf_18 kvX0_71 rfl (by first | exact hW.1.1 | exact hW.1.2.1 | exact hW.1.2.2.1 | exact hW.1.2.2.2.1 | exact hW.1.2.2.2.2.1 | exact hW.2.1.1 | exact hW.2.1.2.1 | exact hW.2.1.2.2.1) rfl rfl (c_X0_letterCell hW ?_)
    refine V_topi (eL E (6 * i)) (lcE_nI E (k := 0) (by omega) (by omega)) ?_
    refine V_iload_n 21 dX0_placeOf_21 rfl ?_
    refine V_icmp_ne 22 36 dX0_placeOf_22 rfl (fun c_22 => ?_) (fun c_22 => ?_)
    · have e_22 : ¬ onB E x i = true := by simpa [onB] using c_22
      have e_p : ¬ plB E x z i = true := fun q => e_22 (Bool.and_eq_true_iff.mp q).1
      refine V_iinc 36 (nI (i + 1)) dX0_placeOf_36 rfl (nI_inc i) rfl rfl ?_
      refine V_goto 39 5 dX0_placeOf_39 rfl ?_
      first | exact (ctN_t e_22 ▸ ih (i + 1) rfl (by omega) (fun j hj => by rcases Nat.lt_or_ge j i with q | q; exact hinv j q; exact (show j = i by omega) ▸ e_p)) | exact (ctN_f e_22 ▸ ih (i + 1) rfl (by omega) (fun j hj => by rcases Nat.lt_or_ge j i with q | q; exact hinv j q; exact (show j = i by omega) ▸ e_p))
    · have e_22 : onB E x i = true := by simpa [onB] using c_22
      refine V_iload_n 25 dX0_placeOf_25 rfl ?_
      refine V_iload_n 26 dX0_placeOf_26 rfl ?_
      refine V_icmp_ne 27 33 dX0_placeOf_27 rfl (fun c_27 => ?_) (fun c_27 => ?_)
      · have e_p : ¬ plB E x z i = true := fun q => c_27 (by simpa using (Bool.and_eq_true_iff.mp q).2)
        refine V_iinc 33 (nI (ctN (onB E x) i + 1)) dX0_placeOf_33 rfl (nI_inc _) rfl rfl ?_
        refine V_iinc 36 (nI (i + 1)) dX0_placeOf_36 rfl (nI_inc i) rfl rfl ?_
        refine V_goto 39 5 dX0_placeOf_39 rfl ?_
        first | exact (ctN_t e_22 ▸ ih (i + 1) rfl (by omega) (fun j hj => by rcases Nat.lt_or_ge j i with q | q; exact hinv j q; exact (show j = i by omega) ▸ e_p)) | exact (ctN_f e_22 ▸ ih (i + 1) rfl (by omega) (fun j hj => by rcases Nat.lt_or_ge j i with q | q; exact hinv j q; exact (show j = i by omega) ▸ e_p))
      · have e_p : plB E x z i = true := Bool.and_eq_true_iff.mpr ⟨e_22, by simpa using c_27⟩
        refine V_iload 30 dX0_placeOf_30 rfl ?_
        refine V_iret 32 dX0_placeOf_32 ?_
        unfold plE at k
        rw [fiN_some (i := i) e_p hinv e_11, if_pos e_11] at k
        exact k
set_option maxHeartbeats 4000000 in
set_option maxRecDepth 100000 in
theorem c_X0_placeOf (hW : WE G h0 h o r E Q) {x z : Int32} (k : Post (some (.int (plE E x z))) h sz) : Cn l G yX0_placeOf cX0_placeOf 5 (some .int) 1 0 0 [.ref o, .int x, .int z] h sz Post := by
  refine Cn.of RX0 false (by decide) rfl (fun q => by cases q) (Nat.le_of_ble_eq_true rfl) ?_
  refine V_iconstv 0 (0) dX0_placeOf_0 (by decide) ?_
  refine V_istore_n 1 dX0_placeOf_1 rfl rfl ?_
  refine V_iconstv 2 (0) dX0_placeOf_2 (by decide) ?_
  refine V_istore 3 dX0_placeOf_3 rfl rfl ?_
  exact lp_X0_placeOf hW k 0 (Nat.zero_le _) (fun j hj => absurd hj (Nat.not_lt_zero j))
/-- the first letter of a link -/
theorem plE_0 (E : ET) (x : Int32) (hn : eN E ≤ 12) : plE E x 0 = if bsy E x = true then nI (fiN (onB E x) (eN E)) else -1 := by
  have key : fiN (plB E x 0) (eN E) = fiN (onB E x) (eN E) := by
    by_cases hb : fiN (onB E x) (eN E) < eN E
    · obtain ⟨h1, h2⟩ := fiN_lt hb
      have hz : ctN (onB E x) (fiN (onB E x) (eN E)) = 0 := by
        generalize fiN (onB E x) (eN E) = m at h2
        induction m with
        | zero => rfl
        | succ m ih =>
          rw [ctN_f (h2 m (by omega))]
          exact ih (fun j hj => h2 j (by omega))
      refine fiN_some ?_ (fun j hj q => h2 j hj (Bool.and_eq_true_iff.mp q).1) hb
      simp only [plB, h1, hz, Bool.true_and, decide_eq_true_eq]
      rfl
    · have h1 := fiN_ge hb
      rw [fiN_none (p := plB E x 0) (fun j hj q => h1 j hj (Bool.and_eq_true_iff.mp q).1), fiN_none (p := onB E x) h1]
  unfold plE bsy
  rw [key]
  by_cases hb : fiN (onB E x) (eN E) < eN E
  · rw [if_pos hb, if_pos (by simpa using hb)]
  · rw [if_neg hb, if_neg (by simpa using hb)]
theorem nI_ne_m1 {n : Nat} (h : n < 2 ^ 31) : ¬ nI n = -1 := fun q => nI_pos h (by rw [q]; decide)
set_option maxHeartbeats 4000000 in
set_option maxRecDepth 100000 in
theorem c_X0_isBusy (hW : WE G h0 h o r E Q) {x : Int32} (k1 : bsy E x = true → Post (some (.int 1)) h sz) (k0 : bsy E x = false → Post (some (.int 0)) h sz) : Cn l G yX0_isBusy cX0_isBusy 2 (some .boolean) 2 0 0 [.ref o, .int x] h sz Post := by
  refine Cn.of RX0 false (by decide) rfl (fun q => by cases q) (Nat.le_of_ble_eq_true rfl) ?_
  refine V_aload_n 0 dX0_isBusy_0 rfl ?_
  refine V_iload_n 1 dX0_isBusy_1 rfl ?_
  refine V_iconstv 2 (0) dX0_isBusy_2 (by decide) ?_
  refine V_iv2 3 dX0_isBusy_3 kvX0_74 rfl (by first | exact hW.1.1 | exact hW.1.2.1 | exact hW.1.2.2.1 | exact hW.1.2.2.2.1 | exact hW.1.2.2.2.2.1 | exact hW.2.1.1 | exact hW.2.1.2.1 | exact hW.2.1.2.2.1) rfl rfl (c_X0_placeOf hW ?_)
  refine V_iconstv 6 (-1) dX0_isBusy_6 (by decide) ?_
  refine V_icmp_eq 7 14 dX0_isBusy_7 rfl (fun c_7 => ?_) (fun c_7 => ?_)
  · refine V_iconstv 14 (0) dX0_isBusy_14 (by decide) ?_
    refine V_zret 15 dX0_isBusy_15 (Or.inl rfl) ?_
    refine k0 ?_
    rw [plE_0 E x hW.1.2.2.2.2.2] at c_7
    by_cases q : bsy E x = true
    · rw [if_pos q] at c_7; exact absurd c_7 (nI_ne_m1 (by have := hW.1.2.2.2.2.2; have := fiN_le (onB E x) (eN E); omega))
    · exact Bool.eq_false_iff.mpr q
  · refine V_iconstv 10 (1) dX0_isBusy_10 (by decide) ?_
    refine V_goto 11 15 dX0_isBusy_11 rfl ?_
    refine V_zret 15 dX0_isBusy_15 (Or.inr rfl) ?_
    refine k1 ?_
    rw [plE_0 E x hW.1.2.2.2.2.2] at c_7
    by_cases q : bsy E x = true
    · exact q
    · rw [if_neg q] at c_7; exact absurd rfl c_7
set_option maxHeartbeats 4000000 in
set_option maxRecDepth 100000 in
theorem lp_X0_busyLinks (hW : WE G h0 h o r E Q) (k : Post (some (.int (nI (blE E Q.1)))) h sz) : ∀ i, i ≤ 2 * Q.1 → V l G RX0 cX0_busyLinks 3 (some .int) false 3 0 0 Post 4 [some (.ref o), some (.int (nI (ctN (fun j => bsy E (nI j)) i))), some (.int (nI i))] [] h sz := by
  have hn := hW.2.1.2.2.2
  refine up_ind (2 * Q.1) (fun i hi ih => ?_)
  refine V_iload_n 4 dX0_busyLinks_4 rfl ?_
  refine V_iconstv 5 (2) dX0_busyLinks_5 (by decide) ?_
  refine V_aload_n 6 dX0_busyLinks_6 rfl ?_
  refine V_get 7 dX0_busyLinks_7 fdX0_34 (by first | exact hW.1.1 | exact hW.1.2.1 | exact hW.1.2.2.1 | exact hW.1.2.2.2.1 | exact hW.1.2.2.2.2.1 | exact hW.2.1.1 | exact hW.2.1.2.1 | exact hW.2.1.2.2.1) rfl ?_
  refine V_get 10 dX0_busyLinks_10 fdX0_64 (by first | exact hW.1.1 | exact hW.1.2.1 | exact hW.1.2.2.1 | exact hW.1.2.2.2.1 | exact hW.1.2.2.2.2.1 | exact hW.2.1.1 | exact hW.2.1.2.1 | exact hW.2.1.2.2.1) rfl ?_
  refine V_imul 13 dX0_busyLinks_13 ?_
  refine V_topi (nI (2 * Q.1)) (pk_mul 2 Q.1) ?_
  refine V_icmp_ge 14 39 dX0_busyLinks_14 rfl (fun c_14 => ?_) (fun c_14 => ?_)
  · have e_14 : i = 2 * Q.1 := Nat.le_antisymm hi ((nI_leI (by omega) (by omega)).mp c_14)
    subst e_14
    refine V_iload_n 39 dX0_busyLinks_39 rfl ?_
    refine V_iret 40 dX0_busyLinks_40 ?_
    exact k
  · have e_14 : i < 2 * Q.1 := Nat.lt_of_not_le (fun q => c_14 (nI_le q (by omega)))
    refine V_iload_n 17 dX0_busyLinks_17 rfl ?_
    refine V_aload_n 18 dX0_busyLinks_18 rfl ?_
    refine V_iload_n 19 dX0_busyLinks_19 rfl ?_
    refine V_iv1 20 dX0_busyLinks_20 kvX0_77 rfl (by first | exact hW.1.1 | exact hW.1.2.1 | exact hW.1.2.2.1 | exact hW.1.2.2.2.1 | exact hW.1.2.2.2.2.1 | exact hW.2.1.1 | exact hW.2.1.2.1 | exact hW.2.1.2.2.1) rfl rfl (c_X0_isBusy hW (fun c_20 => ?_) (fun c_20 => ?_))
    · have e_20 : nI (ctN (fun j => bsy E (nI j)) i) + 1 = nI (ctN (fun j => bsy E (nI j)) (i + 1)) := by rw [nI_1, ctN_t c_20]
      refine V_if_eq 23 30 dX0_busyLinks_23 rfl (fun q => absurd q (by decide)) (fun _ => ?_)
      refine V_iconstv 26 (1) dX0_busyLinks_26 (by decide) ?_
      refine V_goto 27 31 dX0_busyLinks_27 rfl ?_
      refine V_iadd 31 dX0_busyLinks_31 ?_
      refine V_topi _ e_20 ?_
      refine V_istore_n 32 dX0_busyLinks_32 rfl rfl ?_
      refine V_iinc 33 (nI (i + 1)) dX0_busyLinks_33 rfl (nI_inc i) rfl rfl ?_
      refine V_goto 36 4 dX0_busyLinks_36 rfl ?_
      exact ih (i + 1) rfl (by omega)
    · have e_20 : nI (ctN (fun j => bsy E (nI j)) i) + 0 = nI (ctN (fun j => bsy E (nI j)) (i + 1)) := by rw [show (0 : Int32) = nI 0 from rfl, nI_add, ctN_f (Bool.eq_false_iff.mp c_20)]; rfl
      refine V_if_eq 23 30 dX0_busyLinks_23 rfl (fun _ => ?_) (fun q => absurd q (by decide))
      refine V_iconstv 30 (0) dX0_busyLinks_30 (by decide) ?_
      refine V_iadd 31 dX0_busyLinks_31 ?_
      refine V_topi _ e_20 ?_
      refine V_istore_n 32 dX0_busyLinks_32 rfl rfl ?_
      refine V_iinc 33 (nI (i + 1)) dX0_busyLinks_33 rfl (nI_inc i) rfl rfl ?_
      refine V_goto 36 4 dX0_busyLinks_36 rfl ?_
      exact ih (i + 1) rfl (by omega)
set_option maxHeartbeats 4000000 in
set_option maxRecDepth 100000 in
theorem c_X0_busyLinks (hW : WE G h0 h o r E Q) (k : Post (some (.int (nI (blE E Q.1)))) h sz) : Cn l G yX0_busyLinks cX0_busyLinks 3 (some .int) 3 0 0 [.ref o] h sz Post := by
  refine Cn.of RX0 false (by decide) rfl (fun q => by cases q) (Nat.le_of_ble_eq_true rfl) ?_
  refine V_iconstv 0 (0) dX0_busyLinks_0 (by decide) ?_
  refine V_istore_n 1 dX0_busyLinks_1 rfl rfl ?_
  refine V_iconstv 2 (0) dX0_busyLinks_2 (by decide) ?_
  refine V_istore_n 3 dX0_busyLinks_3 rfl rfl ?_
  exact lp_X0_busyLinks hW k 0 (Nat.zero_le _)
end M15
end
section
def laN (p : Nat → Bool) : Nat → Int32
  | 0 => -1
  | n + 1 => if p n = true then nI n else laN p n
def lbB (E : ET) (j i : Nat) : Bool := decide (j ≤ i) && bsy E (nI i)
def lbE (E : ET) (n j : Nat) : Int32 := if fiN (lbB E j) (2 * n) < 2 * n then nI (fiN (lbB E j) (2 * n)) else -1
def gbE (E : ET) (n : Nat) : Int32 := laN (fun i => bsy E (nI i)) (2 * n)
def bnT (E : ET) (n : Nat) (y : Int32) : Int32 := if nI (blE E n) ≤ 0 then 0 else y - y / nI (blE E n) * nI (blE E n)
def bnB (E : ET) (t : Int32) (i : Nat) : Bool := bsy E (nI i) && decide (nI (ctN (fun j => bsy E (nI j)) i) = t)
def bnE (E : ET) (n : Nat) (y : Int32) : Int32 := if fiN (bnB E (bnT E n y)) (2 * n) < 2 * n then nI (fiN (bnB E (bnT E n y)) (2 * n)) else -1
def chE (E : ET) (n : Nat) (ord : Int32) (j : Nat) (y : Int32) : Int32 :=
  if ord = 0 then lbE E n 0 else if ord = 1 then gbE E n else if ord = 2 then (if lbE E n j = -1 then lbE E n 0 else lbE E n j) else bnE E n y
theorem i32_sub0 {a b : Int32} : a - b = 0 ↔ a = b := by
  constructor
  · intro q
    have := congrArg (· + b) q
    simpa using this
  · rintro rfl
    exact Int32.sub_self a
theorem i32_dec (x : Int32) : x + Int32.ofInt (-1) = x - 1 := by
  rw [show Int32.ofInt (-1) = - (1 : Int32) from by decide, Int32.sub_eq_add_neg]
theorem i32_sub_inc (t : Int32) (c : Nat) : t - nI c + Int32.ofInt (-1) = t - nI (c + 1) := by
  rw [i32_dec, nI_succ]
  first
    | (rw [Int32.sub_add_eq]; done)
    | (simp only [Int32.sub_eq_add_neg, Int32.neg_add, Int32.add_assoc]; done)
    | (apply Int32.toBitVec_inj.mp; simp only [Int32.toBitVec_sub, Int32.toBitVec_add]; rw [BitVec.sub_add_eq]; done)
    | (apply Int32.toInt_inj.mp; simp; omega)
section M16
variable {l : Launch} {G : zGT} {h h0 : hpT} {sz : Nat} {Post : Option Value → hpT → Nat → Prop} {o r : Nat} {Q : RG} {E : ET}
set_option maxHeartbeats 4000000 in
set_option maxRecDepth 100000 in
theorem lp_X0_leastBusyAfter (hW : WE G h0 h o r E Q) {b : Int32} (j : Nat) (k : Post (some (.int (lbE E Q.1 j))) h sz) : ∀ i, i ≤ 13 → j ≤ i → (∀ q, q < i → ¬ lbB E j q = true) → V l G RX0 cX0_leastBusyAfter 3 (some .int) false 3 0 0 Post 4 [some (.ref o), some (.int b), some (.int (nI i))] [] h sz := by
  have hn := hW.2.1.2.2.2
  refine up_ind 13 (fun i hi ih hj hinv => ?_)
  refine V_iload_n 4 dX0_leastBusyAfter_4 rfl ?_
  refine V_iconstv 5 (2) dX0_leastBusyAfter_5 (by decide) ?_
  refine V_aload_n 6 dX0_leastBusyAfter_6 rfl ?_
  refine V_get 7 dX0_leastBusyAfter_7 fdX0_34 (by first | exact hW.1.1 | exact hW.1.2.1 | exact hW.1.2.2.1 | exact hW.1.2.2.2.1 | exact hW.1.2.2.2.2.1 | exact hW.2.1.1 | exact hW.2.1.2.1 | exact hW.2.1.2.2.1) rfl ?_
  refine V_get 10 dX0_leastBusyAfter_10 fdX0_64 (by first | exact hW.1.1 | exact hW.1.2.1 | exact hW.1.2.2.1 | exact hW.1.2.2.2.1 | exact hW.1.2.2.2.2.1 | exact hW.2.1.1 | exact hW.2.1.2.1 | exact hW.2.1.2.2.1) rfl ?_
  refine V_imul 13 dX0_leastBusyAfter_13 ?_
  refine V_topi (nI (2 * Q.1)) (pk_mul 2 Q.1) ?_
  refine V_icmp_ge 14 33 dX0_leastBusyAfter_14 rfl (fun c_14 => ?_) (fun c_14 => ?_)
  · have e_14 : 2 * Q.1 ≤ i := (nI_leI (by omega) (by omega)).mp c_14
    refine V_iconstv 33 (-1) dX0_leastBusyAfter_33 (by decide) ?_
    refine V_iret 34 dX0_leastBusyAfter_34 ?_
    unfold lbE at k
    rw [fiN_none (fun j hj => hinv j (by omega)), if_neg (by omega)] at k
    exact k
  · have e_14 : i < 2 * Q.1 := Nat.lt_of_not_le (fun q => c_14 (nI_le q (by omega)))
    refine V_aload_n 17 dX0_leastBusyAfter_17 rfl ?_
    refine V_iload_n 18 dX0_leastBusyAfter_18 rfl ?_
    refine V_iv1 19 dX0_leastBusyAfter_19 kvX0_77 rfl (by first | exact hW.1.1 | exact hW.1.2.1 | exact hW.1.2.2.1 | exact hW.1.2.2.2.1 | exact hW.1.2.2.2.2.1 | exact hW.2.1.1 | exact hW.2.1.2.1 | exact hW.2.1.2.2.1) rfl rfl (c_X0_isBusy hW (fun c_19 => ?_) (fun c_19 => ?_))
    · have e_p : lbB E j i = true := Bool.and_eq_true_iff.mpr ⟨by simpa using hj, c_19⟩
      refine V_if_eq 22 27 dX0_leastBusyAfter_22 rfl (fun q => absurd q (by decide)) (fun _ => ?_)
      refine V_iload_n 25 dX0_leastBusyAfter_25 rfl ?_
      refine V_iret 26 dX0_leastBusyAfter_26 ?_
      unfold lbE at k
      rw [fiN_some (i := i) e_p hinv e_14, if_pos e_14] at k
      exact k
    · have e_p : ¬ lbB E j i = true := fun q => Bool.eq_false_iff.mp c_19 (Bool.and_eq_true_iff.mp q).2
      refine V_if_eq 22 27 dX0_leastBusyAfter_22 rfl (fun _ => ?_) (fun q => absurd q (by decide))
      refine V_iinc 27 (nI (i + 1)) dX0_leastBusyAfter_27 rfl (nI_inc i) rfl rfl ?_
      refine V_goto 30 4 dX0_leastBusyAfter_30 rfl ?_
      exact ih (i + 1) rfl (by omega) (by omega) (fun j hj => by rcases Nat.lt_or_ge j i with q | q; exact hinv j q; exact (show j = i by omega) ▸ e_p)
set_option maxHeartbeats 4000000 in
set_option maxRecDepth 100000 in
theorem c_X0_leastBusyAfter (hW : WE G h0 h o r E Q) {b : Int32} (j : Nat) (hj : j ≤ 12) (hb : b + 1 = nI j) (k : Post (some (.int (lbE E Q.1 j))) h sz) : Cn l G yX0_leastBusyAfter cX0_leastBusyAfter 3 (some .int) 3 0 0 [.ref o, .int b] h sz Post := by
  refine Cn.of RX0 false (by decide) rfl (fun q => by cases q) (Nat.le_of_ble_eq_true rfl) ?_
  refine V_iload_n 0 dX0_leastBusyAfter_0 rfl ?_
  refine V_iconstv 1 (1) dX0_leastBusyAfter_1 (by decide) ?_
  refine V_iadd 2 dX0_leastBusyAfter_2 ?_
  refine V_topi (nI j) hb ?_
  refine V_istore_n 3 dX0_leastBusyAfter_3 rfl rfl ?_
  exact lp_X0_leastBusyAfter hW j k j (by omega) (Nat.le_refl j) (fun q hq w => by have := (Bool.and_eq_true_iff.mp w).1; simp at this; omega)
set_option maxHeartbeats 4000000 in
set_option maxRecDepth 100000 in
theorem lp_X0_greatestBusy (hW : WE G h0 h o r E Q) : ∀ (i : Nat), i ≤ 12 → Post (some (.int (laN (fun i => bsy E (nI i)) i))) h sz → V l G RX0 cX0_greatestBusy 2 (some .int) false 3 0 0 Post 12 [some (.ref o), some (.int (nI i - 1))] [] h sz := by
  intro i
  induction i with
  | zero =>
    intro hi k
    have hz : nI 0 - 1 < 0 := by decide
    refine V_iload_n 12 dX0_greatestBusy_12 rfl ?_
    refine V_if_lt 13 32 dX0_greatestBusy_13 rfl (fun _ => ?_) (fun q => absurd hz q)
    refine V_iconstv 32 (-1) dX0_greatestBusy_32 (by decide) ?_
    refine V_iret 33 dX0_greatestBusy_33 ?_
    exact k
  | succ i ih =>
    intro hi k
    have hz : nI (i + 1) - 1 = nI i := nI_pred i
    rw [hz]
    refine V_iload_n 12 dX0_greatestBusy_12 rfl ?_
    refine V_if_lt 13 32 dX0_greatestBusy_13 rfl (fun q => absurd q (nI_pos (by omega))) (fun _ => ?_)
    refine V_aload_n 16 dX0_greatestBusy_16 rfl ?_
    refine V_iload_n 17 dX0_greatestBusy_17 rfl ?_
    refine V_iv1 18 dX0_greatestBusy_18 kvX0_77 rfl (by first | exact hW.1.1 | exact hW.1.2.1 | exact hW.1.2.2.1 | exact hW.1.2.2.2.1 | exact hW.1.2.2.2.2.1 | exact hW.2.1.1 | exact hW.2.1.2.1 | exact hW.2.1.2.2.1) rfl rfl (c_X0_isBusy hW (fun c_18 => ?_) (fun c_18 => ?_))
    · rw [laN, if_pos c_18] at k
      refine V_if_eq 21 26 dX0_greatestBusy_21 rfl (fun q => absurd q (by decide)) (fun _ => ?_)
      refine V_iload_n 24 dX0_greatestBusy_24 rfl ?_
      refine V_iret 25 dX0_greatestBusy_25 ?_
      exact k
    · rw [laN, if_neg (Bool.eq_false_iff.mp c_18)] at k
      refine V_if_eq 21 26 dX0_greatestBusy_21 rfl (fun _ => ?_) (fun q => absurd q (by decide))
      refine V_iinc 26 (nI i - 1) dX0_greatestBusy_26 rfl (i32_dec _) rfl rfl ?_
      refine V_goto 29 12 dX0_greatestBusy_29 rfl ?_
      exact ih (by omega) k
set_option maxHeartbeats 4000000 in
set_option maxRecDepth 100000 in
theorem c_X0_greatestBusy (hW : WE G h0 h o r E Q) (k : Post (some (.int (gbE E Q.1))) h sz) : Cn l G yX0_greatestBusy cX0_greatestBusy 2 (some .int) 3 0 0 [.ref o] h sz Post := by
  refine Cn.of RX0 false (by decide) rfl (fun q => by cases q) (Nat.le_of_ble_eq_true rfl) ?_
  refine V_iconstv 0 (2) dX0_greatestBusy_0 (by decide) ?_
  refine V_aload_n 1 dX0_greatestBusy_1 rfl ?_
  refine V_get 2 dX0_greatestBusy_2 fdX0_34 (by first | exact hW.1.1 | exact hW.1.2.1 | exact hW.1.2.2.1 | exact hW.1.2.2.2.1 | exact hW.1.2.2.2.2.1 | exact hW.2.1.1 | exact hW.2.1.2.1 | exact hW.2.1.2.2.1) rfl ?_
  refine V_get 5 dX0_greatestBusy_5 fdX0_64 (by first | exact hW.1.1 | exact hW.1.2.1 | exact hW.1.2.2.1 | exact hW.1.2.2.2.1 | exact hW.1.2.2.2.2.1 | exact hW.2.1.1 | exact hW.2.1.2.1 | exact hW.2.1.2.2.1) rfl ?_
  refine V_imul 8 dX0_greatestBusy_8 ?_
  refine V_topi (nI (2 * Q.1)) (pk_mul 2 Q.1) ?_
  refine V_iconstv 9 (1) dX0_greatestBusy_9 (by decide) ?_
  refine V_isub 10 dX0_greatestBusy_10 ?_
  refine V_istore_n 11 dX0_greatestBusy_11 rfl rfl ?_
  exact lp_X0_greatestBusy hW (2 * Q.1) (by have := hW.2.1.2.2.2; omega) k
set_option maxHeartbeats 4000000 in
set_option maxRecDepth 100000 in
theorem c_X0_nextBusyRound (hW : WE G h0 h o r E Q) {b : Int32} (j : Nat) (hj : j ≤ 12) (hb : b + 1 = nI j) (k : Post (some (.int (if lbE E Q.1 j = -1 then lbE E Q.1 0 else lbE E Q.1 j))) h sz) : Cn l G yX0_nextBusyRound cX0_nextBusyRound 3 (some .int) 4 0 0 [.ref o, .int b] h sz Post := by
  refine Cn.of RX0 false (by decide) rfl (fun q => by cases q) (Nat.le_of_ble_eq_true rfl) ?_
  refine V_aload_n 0 dX0_nextBusyRound_0 rfl ?_
  refine V_iload_n 1 dX0_nextBusyRound_1 rfl ?_
  refine V_iv1 2 dX0_nextBusyRound_2 kvX0_91 rfl (by first | exact hW.1.1 | exact hW.1.2.1 | exact hW.1.2.2.1 | exact hW.1.2.2.2.1 | exact hW.1.2.2.2.2.1 | exact hW.2.1.1 | exact hW.2.1.2.1 | exact hW.2.1.2.2.1) rfl rfl (c_X0_leastBusyAfter hW j hj hb ?_)
  refine V_istore_n 5 dX0_nextBusyRound_5 rfl rfl ?_
  refine V_iload_n 6 dX0_nextBusyRound_6 rfl ?_
  refine V_iconstv 7 (-1) dX0_nextBusyRound_7 (by decide) ?_
  refine V_icmp_eq 8 15 dX0_nextBusyRound_8 rfl (fun c_8 => ?_) (fun c_8 => ?_)
  · refine V_aload_n 15 dX0_nextBusyRound_15 rfl ?_
    refine V_iconstv 16 (-1) dX0_nextBusyRound_16 (by decide) ?_
    refine V_iv1 17 dX0_nextBusyRound_17 kvX0_91 rfl (by first | exact hW.1.1 | exact hW.1.2.1 | exact hW.1.2.2.1 | exact hW.1.2.2.2.1 | exact hW.1.2.2.2.2.1 | exact hW.2.1.1 | exact hW.2.1.2.1 | exact hW.2.1.2.2.1) rfl rfl (c_X0_leastBusyAfter hW 0 (by omega) (by decide) ?_)
    refine V_iret 20 dX0_nextBusyRound_20 ?_
    first | (rw [if_pos c_8] at k; exact k) | (rw [if_neg c_8] at k; exact k)
  · refine V_iload_n 11 dX0_nextBusyRound_11 rfl ?_
    refine V_goto 12 20 dX0_nextBusyRound_12 rfl ?_
    refine V_iret 20 dX0_nextBusyRound_20 ?_
    first | (rw [if_pos c_8] at k; exact k) | (rw [if_neg c_8] at k; exact k)
set_option maxHeartbeats 4000000 in
set_option maxRecDepth 100000 in
theorem lp_X0_busyByNumber (hW : WE G h0 h o r E Q) {y b t : Int32} (k : Post (some (.int (if fiN (bnB E t) (2 * Q.1) < 2 * Q.1 then nI (fiN (bnB E t) (2 * Q.1)) else -1))) h sz) : ∀ i, i ≤ 2 * Q.1 → (∀ q, q < i → ¬ bnB E t q = true) → V l G RX0 cX0_busyByNumber 5 (some .int) false 4 0 0 Post 20 [some (.ref o), some (.int y), some (.int b), some (.int (t - nI (ctN (fun j => bsy E (nI j)) i))), some (.int (nI i))] [] h sz := by
  have hn := hW.2.1.2.2.2
  refine up_ind (2 * Q.1) (fun i hi ih hinv => ?_)
  refine V_iload 20 dX0_busyByNumber_20 rfl ?_
  refine V_iconstv 22 (2) dX0_busyByNumber_22 (by decide) ?_
  refine V_aload_n 23 dX0_busyByNumber_23 rfl ?_
  refine V_get 24 dX0_busyByNumber_24 fdX0_34 (by first | exact hW.1.1 | exact hW.1.2.1 | exact hW.1.2.2.1 | exact hW.1.2.2.2.1 | exact hW.1.2.2.2.2.1 | exact hW.2.1.1 | exact hW.2.1.2.1 | exact hW.2.1.2.2.1) rfl ?_
  refine V_get 27 dX0_busyByNumber_27 fdX0_64 (by first | exact hW.1.1 | exact hW.1.2.1 | exact hW.1.2.2.1 | exact hW.1.2.2.2.1 | exact hW.1.2.2.2.2.1 | exact hW.2.1.1 | exact hW.2.1.2.1 | exact hW.2.1.2.2.1) rfl ?_
  refine V_imul 30 dX0_busyByNumber_30 ?_
  refine V_topi (nI (2 * Q.1)) (pk_mul 2 Q.1) ?_
  refine V_icmp_ge 31 59 dX0_busyByNumber_31 rfl (fun c_31 => ?_) (fun c_31 => ?_)
  · have e_31 : i = 2 * Q.1 := Nat.le_antisymm hi ((nI_leI (by omega) (by omega)).mp c_31)
    refine V_iconstv 59 (-1) dX0_busyByNumber_59 (by decide) ?_
    refine V_iret 60 dX0_busyByNumber_60 ?_
    rw [fiN_none (fun j hj => hinv j (by omega)), if_neg (by omega)] at k
    exact k
  · have e_31 : i < 2 * Q.1 := Nat.lt_of_not_le (fun q => c_31 (nI_le q (by omega)))
    refine V_aload_n 34 dX0_busyByNumber_34 rfl ?_
    refine V_iload 35 dX0_busyByNumber_35 rfl ?_
    refine V_iv1 37 dX0_busyByNumber_37 kvX0_77 rfl (by first | exact hW.1.1 | exact hW.1.2.1 | exact hW.1.2.2.1 | exact hW.1.2.2.2.1 | exact hW.1.2.2.2.2.1 | exact hW.2.1.1 | exact hW.2.1.2.1 | exact hW.2.1.2.2.1) rfl rfl (c_X0_isBusy hW (fun c_37 => ?_) (fun c_37 => ?_))
    · refine V_if_eq 40 53 dX0_busyByNumber_40 rfl (fun q => absurd q (by decide)) (fun _ => ?_)
      refine V_iload_n 43 dX0_busyByNumber_43 rfl ?_
      refine V_if_ne 44 50 dX0_busyByNumber_44 rfl (fun c_44 => ?_) (fun c_44 => ?_)
      · have e_p : ¬ bnB E t i = true := fun q => c_44 (i32_sub0.mpr (by have := (Bool.and_eq_true_iff.mp q).2; simp at this; exact this.symm))
        refine V_iinc 50 (t - nI (ctN (fun j => bsy E (nI j)) i + 1)) dX0_busyByNumber_50 rfl (i32_sub_inc t _) rfl rfl ?_
        refine V_iinc 53 (nI (i + 1)) dX0_busyByNumber_53 rfl (nI_inc i) rfl rfl ?_
        refine V_goto 56 20 dX0_busyByNumber_56 rfl ?_
        first | exact (ctN_t (p := fun j => bsy E (nI j)) c_37 ▸ ih (i + 1) rfl (by omega) (fun j hj => by rcases Nat.lt_or_ge j i with q | q; exact hinv j q; exact (show j = i by omega) ▸ e_p)) | exact (ctN_f (p := fun j => bsy E (nI j)) (Bool.eq_false_iff.mp c_37) ▸ ih (i + 1) rfl (by omega) (fun j hj => by rcases Nat.lt_or_ge j i with q | q; exact hinv j q; exact (show j = i by omega) ▸ e_p))
      · have e_p : bnB E t i = true := Bool.and_eq_true_iff.mpr ⟨c_37, by simpa using (i32_sub0.mp c_44).symm⟩
        refine V_iload 47 dX0_busyByNumber_47 rfl ?_
        refine V_iret 49 dX0_busyByNumber_49 ?_
        rw [fiN_some (i := i) e_p hinv e_31, if_pos e_31] at k
        exact k
    · have e_p : ¬ bnB E t i = true := fun q => Bool.eq_false_iff.mp c_37 (Bool.and_eq_true_iff.mp q).1
      refine V_if_eq 40 53 dX0_busyByNumber_40 rfl (fun _ => ?_) (fun q => absurd q (by decide))
      refine V_iinc 53 (nI (i + 1)) dX0_busyByNumber_53 rfl (nI_inc i) rfl rfl ?_
      refine V_goto 56 20 dX0_busyByNumber_56 rfl ?_
      first | exact (ctN_t (p := fun j => bsy E (nI j)) c_37 ▸ ih (i + 1) rfl (by omega) (fun j hj => by rcases Nat.lt_or_ge j i with q | q; exact hinv j q; exact (show j = i by omega) ▸ e_p)) | exact (ctN_f (p := fun j => bsy E (nI j)) (Bool.eq_false_iff.mp c_37) ▸ ih (i + 1) rfl (by omega) (fun j hj => by rcases Nat.lt_or_ge j i with q | q; exact hinv j q; exact (show j = i by omega) ▸ e_p))
set_option maxHeartbeats 4000000 in
set_option maxRecDepth 100000 in
theorem c_X0_busyByNumber (hW : WE G h0 h o r E Q) {y : Int32} (k : Post (some (.int (bnE E Q.1 y))) h sz) : Cn l G yX0_busyByNumber cX0_busyByNumber 5 (some .int) 4 0 0 [.ref o, .int y] h sz Post := by
  refine Cn.of RX0 false (by decide) rfl (fun q => by cases q) (Nat.le_of_ble_eq_true rfl) ?_
  refine V_aload_n 0 dX0_busyByNumber_0 rfl ?_
  refine V_iv0 1 dX0_busyByNumber_1 kvX0_104 rfl (by first | exact hW.1.1 | exact hW.1.2.1 | exact hW.1.2.2.1 | exact hW.1.2.2.2.1 | exact hW.1.2.2.2.2.1 | exact hW.2.1.1 | exact hW.2.1.2.1 | exact hW.2.1.2.2.1) rfl rfl (c_X0_busyLinks hW ?_)
  refine V_istore_n 4 dX0_busyByNumber_4 rfl rfl ?_
  refine V_iload_n 5 dX0_busyByNumber_5 rfl ?_
  refine V_if_le 6 15 dX0_busyByNumber_6 rfl (fun c_6 => ?_) (fun c_6 => ?_)
  · refine V_iconstv 15 (0) dX0_busyByNumber_15 (by decide) ?_
    refine V_topi (bnT E Q.1 y) (by first | exact (if_pos c_6).symm | exact (if_neg c_6).symm) ?_
    refine V_istore_n 16 dX0_busyByNumber_16 rfl rfl ?_
    refine V_iconstv 17 (0) dX0_busyByNumber_17 (by decide) ?_
    refine V_istore 18 dX0_busyByNumber_18 rfl rfl ?_
    unfold bnE at k
    have e0 : bnT E Q.1 y - nI (ctN (fun j => bsy E (nI j)) 0) = bnT E Q.1 y := by show bnT E Q.1 y - nI 0 = bnT E Q.1 y; rw [nI_0]; simp
    have K := lp_X0_busyByNumber (l := l) hW (y := y) (b := nI (blE E Q.1)) (t := bnT E Q.1 y) k 0 (Nat.zero_le _) (fun j hj => absurd hj (Nat.not_lt_zero j))
    rw [e0] at K
    exact K
  · refine V_iload_n 9 dX0_busyByNumber_9 rfl ?_
    refine V_iload_n 10 dX0_busyByNumber_10 rfl ?_
    refine V_irem 11 dX0_busyByNumber_11 (fun q => c_6 (by rw [q]; decide)) ?_
    refine V_goto 12 16 dX0_busyByNumber_12 rfl ?_
    refine V_topi (bnT E Q.1 y) (by first | exact (if_pos c_6).symm | exact (if_neg c_6).symm) ?_
    refine V_istore_n 16 dX0_busyByNumber_16 rfl rfl ?_
    refine V_iconstv 17 (0) dX0_busyByNumber_17 (by decide) ?_
    refine V_istore 18 dX0_busyByNumber_18 rfl rfl ?_
    unfold bnE at k
    have e0 : bnT E Q.1 y - nI (ctN (fun j => bsy E (nI j)) 0) = bnT E Q.1 y := by show bnT E Q.1 y - nI 0 = bnT E Q.1 y; rw [nI_0]; simp
    have K := lp_X0_busyByNumber (l := l) hW (y := y) (b := nI (blE E Q.1)) (t := bnT E Q.1 y) k 0 (Nat.zero_le _) (fun j hj => absurd hj (Nat.not_lt_zero j))
    rw [e0] at K
    exact K
set_option maxHeartbeats 4000000 in
set_option maxRecDepth 100000 in
theorem c_X0_chosenLine (hW : WE G h0 h o r E Q) {x b y : Int32} (j : Nat) (hj : j ≤ 12) (hb : b + 1 = nI j) (k : Post (some (.int (chE E Q.1 x j y))) h sz) : Cn l G yX0_chosenLine cX0_chosenLine 4 (some .int) 5 0 0 [.ref o, .int x, .int b, .int y] h sz Post := by
  refine Cn.of RX0 false (by decide) rfl (fun q => by cases q) (Nat.le_of_ble_eq_true rfl) ?_
  refine V_iload_n 0 dX0_chosenLine_0 rfl ?_
  by_cases sw1_0 : x = 0
  · refine V_tableIn 1 28 (27) dX0_chosenLine_1 (by rw [sw1_0]; decide) (by rw [sw1_0]; decide) (by rw [sw1_0]; rfl) rfl ?_
    refine V_aload_n 28 dX0_chosenLine_28 rfl ?_
    refine V_iconstv 29 (-1) dX0_chosenLine_29 (by decide) ?_
    refine V_iv1 30 dX0_chosenLine_30 kvX0_91 rfl (by first | exact hW.1.1 | exact hW.1.2.1 | exact hW.1.2.2.1 | exact hW.1.2.2.2.1 | exact hW.1.2.2.2.2.1 | exact hW.2.1.1 | exact hW.2.1.2.1 | exact hW.2.1.2.2.1) rfl rfl (c_X0_leastBusyAfter hW 0 (by omega) (by decide) ?_)
    refine V_iret 33 dX0_chosenLine_33 ?_
    unfold chE at k
    rw [if_pos sw1_0] at k
    exact k
  by_cases sw1_1 : x = 1
  · refine V_tableIn 1 34 (33) dX0_chosenLine_1 (by rw [sw1_1]; decide) (by rw [sw1_1]; decide) (by rw [sw1_1]; rfl) rfl ?_
    refine V_aload_n 34 dX0_chosenLine_34 rfl ?_
    refine V_iv0 35 dX0_chosenLine_35 kvX0_94 rfl (by first | exact hW.1.1 | exact hW.1.2.1 | exact hW.1.2.2.1 | exact hW.1.2.2.2.1 | exact hW.1.2.2.2.2.1 | exact hW.2.1.1 | exact hW.2.1.2.1 | exact hW.2.1.2.2.1) rfl rfl (c_X0_greatestBusy hW ?_)
    refine V_iret 38 dX0_chosenLine_38 ?_
    unfold chE at k
    rw [if_neg sw1_0, if_pos sw1_1] at k
    exact k
  by_cases sw1_2 : x = 2
  · refine V_tableIn 1 39 (38) dX0_chosenLine_1 (by rw [sw1_2]; decide) (by rw [sw1_2]; decide) (by rw [sw1_2]; rfl) rfl ?_
    refine V_aload_n 39 dX0_chosenLine_39 rfl ?_
    refine V_iload_n 40 dX0_chosenLine_40 rfl ?_
    refine V_iv1 41 dX0_chosenLine_41 kvX0_98 rfl (by first | exact hW.1.1 | exact hW.1.2.1 | exact hW.1.2.2.1 | exact hW.1.2.2.2.1 | exact hW.1.2.2.2.2.1 | exact hW.2.1.1 | exact hW.2.1.2.1 | exact hW.2.1.2.2.1) rfl rfl (c_X0_nextBusyRound hW j hj hb ?_)
    refine V_iret 44 dX0_chosenLine_44 ?_
    unfold chE at k
    rw [if_neg sw1_0, if_neg sw1_1, if_pos sw1_2] at k
    exact k
  have tq0 : ¬ x.toInt = 0 := fun q => sw1_0 (Int32.toInt_inj.mp q)
  have tq1 : ¬ x.toInt = 1 := fun q => sw1_1 (Int32.toInt_inj.mp q)
  have tq2 : ¬ x.toInt = 2 := fun q => sw1_2 (Int32.toInt_inj.mp q)
  refine V_tableOut 1 45 dX0_chosenLine_1 (by omega) rfl ?_
  refine V_aload_n 45 dX0_chosenLine_45 rfl ?_
  refine V_iload_n 46 dX0_chosenLine_46 rfl ?_
  refine V_iv1 47 dX0_chosenLine_47 kvX0_101 rfl (by first | exact hW.1.1 | exact hW.1.2.1 | exact hW.1.2.2.1 | exact hW.1.2.2.2.1 | exact hW.1.2.2.2.2.1 | exact hW.2.1.1 | exact hW.2.1.2.1 | exact hW.2.1.2.2.1) rfl rfl (c_X0_busyByNumber hW ?_)
  refine V_iret 50 dX0_chosenLine_50 ?_
  unfold chE at k
  rw [if_neg sw1_0, if_neg sw1_1, if_neg sw1_2] at k
  exact k
end M16
end
